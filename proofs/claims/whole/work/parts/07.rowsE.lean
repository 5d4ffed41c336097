theorem dX8_init_0 : decode cX8_init 0 = .ok (.aload_n 0, 1) := by decide +kernel
theorem dX8_init_1 : decode cX8_init 1 = .ok (.invokespecial 1, 3) := by decide +kernel
theorem dX8_init_4 : decode cX8_init 4 = .ok (.aload_n 0, 1) := by decide +kernel
theorem dX8_init_5 : decode cX8_init 5 = .ok (.bipush 7, 2) := by decide +kernel
theorem dX8_init_7 : decode cX8_init 7 = .ok (.newarray .int, 2) := by decide +kernel
theorem dX8_init_9 : decode cX8_init 9 = .ok (.dup, 1) := by decide +kernel
theorem dX8_init_10 : decode cX8_init 10 = .ok (.iconst 0, 1) := by decide +kernel
theorem dX8_init_11 : decode cX8_init 11 = .ok (.iconst (-1), 1) := by decide +kernel
theorem dX8_init_12 : decode cX8_init 12 = .ok (.iastore, 1) := by decide +kernel
theorem dX8_init_13 : decode cX8_init 13 = .ok (.dup, 1) := by decide +kernel
theorem dX8_init_14 : decode cX8_init 14 = .ok (.iconst 1, 1) := by decide +kernel
theorem dX8_init_15 : decode cX8_init 15 = .ok (.iconst (-1), 1) := by decide +kernel
theorem dX8_init_16 : decode cX8_init 16 = .ok (.iastore, 1) := by decide +kernel
theorem dX8_init_17 : decode cX8_init 17 = .ok (.dup, 1) := by decide +kernel
theorem dX8_init_18 : decode cX8_init 18 = .ok (.iconst 2, 1) := by decide +kernel
theorem dX8_init_19 : decode cX8_init 19 = .ok (.iconst (-1), 1) := by decide +kernel
theorem dX8_init_20 : decode cX8_init 20 = .ok (.iastore, 1) := by decide +kernel
theorem dX8_init_21 : decode cX8_init 21 = .ok (.dup, 1) := by decide +kernel
theorem dX8_init_22 : decode cX8_init 22 = .ok (.iconst 3, 1) := by decide +kernel
theorem dX8_init_23 : decode cX8_init 23 = .ok (.iconst (-1), 1) := by decide +kernel
theorem dX8_init_24 : decode cX8_init 24 = .ok (.iastore, 1) := by decide +kernel
theorem dX8_init_25 : decode cX8_init 25 = .ok (.dup, 1) := by decide +kernel
theorem dX8_init_26 : decode cX8_init 26 = .ok (.iconst 4, 1) := by decide +kernel
theorem dX8_init_27 : decode cX8_init 27 = .ok (.iconst (-1), 1) := by decide +kernel
theorem dX8_init_28 : decode cX8_init 28 = .ok (.iastore, 1) := by decide +kernel
theorem dX8_init_29 : decode cX8_init 29 = .ok (.dup, 1) := by decide +kernel
theorem dX8_init_30 : decode cX8_init 30 = .ok (.iconst 5, 1) := by decide +kernel
theorem dX8_init_31 : decode cX8_init 31 = .ok (.iconst (-1), 1) := by decide +kernel
theorem dX8_init_32 : decode cX8_init 32 = .ok (.iastore, 1) := by decide +kernel
theorem dX8_init_33 : decode cX8_init 33 = .ok (.dup, 1) := by decide +kernel
theorem dX8_init_34 : decode cX8_init 34 = .ok (.bipush 6, 2) := by decide +kernel
theorem dX8_init_36 : decode cX8_init 36 = .ok (.iconst (-1), 1) := by decide +kernel
theorem dX8_init_37 : decode cX8_init 37 = .ok (.iastore, 1) := by decide +kernel
theorem dX8_init_38 : decode cX8_init 38 = .ok (.putfield 9, 3) := by decide +kernel
theorem dX8_init_41 : decode cX8_init 41 = .ok (.aload_n 0, 1) := by decide +kernel
theorem dX8_init_42 : decode cX8_init 42 = .ok (.bipush 7, 2) := by decide +kernel
theorem dX8_init_44 : decode cX8_init 44 = .ok (.newarray .int, 2) := by decide +kernel
theorem dX8_init_46 : decode cX8_init 46 = .ok (.putfield 13, 3) := by decide +kernel
theorem dX8_init_49 : decode cX8_init 49 = .ok (.aload_n 0, 1) := by decide +kernel
theorem dX8_init_50 : decode cX8_init 50 = .ok (.new 16, 3) := by decide +kernel
theorem dX8_init_53 : decode cX8_init 53 = .ok (.dup, 1) := by decide +kernel
theorem dX8_init_54 : decode cX8_init 54 = .ok (.aload_n 0, 1) := by decide +kernel
theorem dX8_init_55 : decode cX8_init 55 = .ok (.invokespecial 18, 3) := by decide +kernel
theorem dX8_init_58 : decode cX8_init 58 = .ok (.putfield 21, 3) := by decide +kernel
theorem dX8_init_61 : decode cX8_init 61 = .ok (.aload_n 0, 1) := by decide +kernel
theorem dX8_init_62 : decode cX8_init 62 = .ok (.new 16, 3) := by decide +kernel
theorem dX8_init_65 : decode cX8_init 65 = .ok (.dup, 1) := by decide +kernel
theorem dX8_init_66 : decode cX8_init 66 = .ok (.aload_n 0, 1) := by decide +kernel
theorem dX8_init_67 : decode cX8_init 67 = .ok (.invokespecial 18, 3) := by decide +kernel
theorem dX8_init_70 : decode cX8_init 70 = .ok (.putfield 25, 3) := by decide +kernel
theorem dX8_init_73 : decode cX8_init 73 = .ok (.return_, 1) := by decide +kernel
theorem dX8_thrown_0 : decode cX8_thrown 0 = .ok (.aload_n 0, 1) := by decide +kernel
theorem dX8_thrown_1 : decode cX8_thrown 1 = .ok (.getfield 28, 3) := by decide +kernel
theorem dX8_thrown_4 : decode cX8_thrown 4 = .ok (.ireturn, 1) := by decide +kernel
theorem dX8_no_0 : decode cX8_no 0 = .ok (.aload_n 0, 1) := by decide +kernel
theorem dX8_no_1 : decode cX8_no 1 = .ok (.iload_n 1, 1) := by decide +kernel
theorem dX8_no_2 : decode cX8_no 2 = .ok (.putfield 28, 3) := by decide +kernel
theorem dX8_no_5 : decode cX8_no 5 = .ok (.iconst 0, 1) := by decide +kernel
theorem dX8_no_6 : decode cX8_no 6 = .ok (.ireturn, 1) := by decide +kernel
theorem dX8_isIn_0 : decode cX8_isIn 0 = .ok (.iload_n 0, 1) := by decide +kernel
theorem dX8_isIn_1 : decode cX8_isIn 1 = .ok (.iload_n 1, 1) := by decide +kernel
theorem dX8_isIn_2 : decode cX8_isIn 2 = .ok (.if_icmp .lt 12, 3) := by decide +kernel
theorem dX8_isIn_5 : decode cX8_isIn 5 = .ok (.iload_n 0, 1) := by decide +kernel
theorem dX8_isIn_6 : decode cX8_isIn 6 = .ok (.iload_n 2, 1) := by decide +kernel
theorem dX8_isIn_7 : decode cX8_isIn 7 = .ok (.if_icmp .gt 7, 3) := by decide +kernel
theorem dX8_isIn_10 : decode cX8_isIn 10 = .ok (.iconst 1, 1) := by decide +kernel
theorem dX8_isIn_11 : decode cX8_isIn 11 = .ok (.goto 4, 3) := by decide +kernel
theorem dX8_isIn_14 : decode cX8_isIn 14 = .ok (.iconst 0, 1) := by decide +kernel
theorem dX8_isIn_15 : decode cX8_isIn 15 = .ok (.ireturn, 1) := by decide +kernel
theorem dX8_isCustomer_0 : decode cX8_isCustomer 0 = .ok (.iload_n 1, 1) := by decide +kernel
theorem dX8_isCustomer_1 : decode cX8_isCustomer 1 = .ok (.iconst 0, 1) := by decide +kernel
theorem dX8_isCustomer_2 : decode cX8_isCustomer 2 = .ok (.aload_n 0, 1) := by decide +kernel
theorem dX8_isCustomer_3 : decode cX8_isCustomer 3 = .ok (.getfield 32, 3) := by decide +kernel
theorem dX8_isCustomer_6 : decode cX8_isCustomer 6 = .ok (.iconst 1, 1) := by decide +kernel
theorem dX8_isCustomer_7 : decode cX8_isCustomer 7 = .ok (.isub, 1) := by decide +kernel
theorem dX8_isCustomer_8 : decode cX8_isCustomer 8 = .ok (.invokestatic 35, 3) := by decide +kernel
theorem dX8_isCustomer_11 : decode cX8_isCustomer 11 = .ok (.ireturn, 1) := by decide +kernel
theorem dX8_isTicket_0 : decode cX8_isTicket 0 = .ok (.iload_n 1, 1) := by decide +kernel
theorem dX8_isTicket_1 : decode cX8_isTicket 1 = .ok (.iconst 0, 1) := by decide +kernel
theorem dX8_isTicket_2 : decode cX8_isTicket 2 = .ok (.aload_n 0, 1) := by decide +kernel
theorem dX8_isTicket_3 : decode cX8_isTicket 3 = .ok (.getfield 21, 3) := by decide +kernel
theorem dX8_isTicket_6 : decode cX8_isTicket 6 = .ok (.getfield 39, 3) := by decide +kernel
theorem dX8_isTicket_9 : decode cX8_isTicket 9 = .ok (.iconst 1, 1) := by decide +kernel
theorem dX8_isTicket_10 : decode cX8_isTicket 10 = .ok (.isub, 1) := by decide +kernel
theorem dX8_isTicket_11 : decode cX8_isTicket 11 = .ok (.invokestatic 35, 3) := by decide +kernel
theorem dX8_isTicket_14 : decode cX8_isTicket 14 = .ok (.ireturn, 1) := by decide +kernel
theorem dX8_come_0 : decode cX8_come 0 = .ok (.aload_n 0, 1) := by decide +kernel
theorem dX8_come_1 : decode cX8_come 1 = .ok (.iconst 0, 1) := by decide +kernel
theorem dX8_come_2 : decode cX8_come 2 = .ok (.putfield 28, 3) := by decide +kernel
theorem dX8_come_5 : decode cX8_come 5 = .ok (.iload_n 1, 1) := by decide +kernel
theorem dX8_come_6 : decode cX8_come 6 = .ok (.iconst 0, 1) := by decide +kernel
theorem dX8_come_7 : decode cX8_come 7 = .ok (.sipush 2000, 3) := by decide +kernel
theorem dX8_come_10 : decode cX8_come 10 = .ok (.invokestatic 35, 3) := by decide +kernel
theorem dX8_come_13 : decode cX8_come 13 = .ok (.ifCond .ne 9, 3) := by decide +kernel
theorem dX8_come_16 : decode cX8_come 16 = .ok (.aload_n 0, 1) := by decide +kernel
theorem dX8_come_17 : decode cX8_come 17 = .ok (.iconst 1, 1) := by decide +kernel
theorem dX8_come_18 : decode cX8_come 18 = .ok (.invokevirtual 42, 3) := by decide +kernel
theorem dX8_come_21 : decode cX8_come 21 = .ok (.ireturn, 1) := by decide +kernel
theorem dX8_come_22 : decode cX8_come 22 = .ok (.aload_n 0, 1) := by decide +kernel
theorem dX8_come_23 : decode cX8_come 23 = .ok (.getfield 32, 3) := by decide +kernel
theorem dX8_come_26 : decode cX8_come 26 = .ok (.bipush 10, 2) := by decide +kernel
theorem dX8_come_28 : decode cX8_come 28 = .ok (.if_icmp .ne 9, 3) := by decide +kernel
theorem dX8_come_31 : decode cX8_come 31 = .ok (.aload_n 0, 1) := by decide +kernel
theorem dX8_come_32 : decode cX8_come 32 = .ok (.iconst 2, 1) := by decide +kernel
theorem dX8_come_33 : decode cX8_come 33 = .ok (.invokevirtual 42, 3) := by decide +kernel
theorem dX8_come_36 : decode cX8_come 36 = .ok (.ireturn, 1) := by decide +kernel
theorem dX8_come_37 : decode cX8_come 37 = .ok (.aload_n 0, 1) := by decide +kernel
theorem dX8_come_38 : decode cX8_come 38 = .ok (.getfield 21, 3) := by decide +kernel
theorem dX8_come_41 : decode cX8_come 41 = .ok (.getfield 46, 3) := by decide +kernel
theorem dX8_come_44 : decode cX8_come 44 = .ok (.aload_n 0, 1) := by decide +kernel
theorem dX8_come_45 : decode cX8_come 45 = .ok (.getfield 32, 3) := by decide +kernel
theorem dX8_come_48 : decode cX8_come 48 = .ok (.iload_n 1, 1) := by decide +kernel
theorem dX8_come_49 : decode cX8_come 49 = .ok (.iastore, 1) := by decide +kernel
theorem dX8_come_50 : decode cX8_come 50 = .ok (.aload_n 0, 1) := by decide +kernel
theorem dX8_come_51 : decode cX8_come 51 = .ok (.getfield 21, 3) := by decide +kernel
theorem dX8_come_54 : decode cX8_come 54 = .ok (.getfield 49, 3) := by decide +kernel
theorem dX8_come_57 : decode cX8_come 57 = .ok (.aload_n 0, 1) := by decide +kernel
theorem dX8_come_58 : decode cX8_come 58 = .ok (.getfield 32, 3) := by decide +kernel
theorem dX8_come_61 : decode cX8_come 61 = .ok (.iconst 5, 1) := by decide +kernel
theorem dX8_come_62 : decode cX8_come 62 = .ok (.iastore, 1) := by decide +kernel
theorem dX8_come_63 : decode cX8_come 63 = .ok (.aload_n 0, 1) := by decide +kernel
theorem dX8_come_64 : decode cX8_come 64 = .ok (.dup, 1) := by decide +kernel
theorem dX8_come_65 : decode cX8_come 65 = .ok (.getfield 32, 3) := by decide +kernel
theorem dX8_come_68 : decode cX8_come 68 = .ok (.iconst 1, 1) := by decide +kernel
theorem dX8_come_69 : decode cX8_come 69 = .ok (.iadd, 1) := by decide +kernel
theorem dX8_come_70 : decode cX8_come 70 = .ok (.putfield 32, 3) := by decide +kernel
theorem dX8_come_73 : decode cX8_come 73 = .ok (.aload_n 0, 1) := by decide +kernel
theorem dX8_come_74 : decode cX8_come 74 = .ok (.getfield 32, 3) := by decide +kernel
theorem dX8_come_77 : decode cX8_come 77 = .ok (.iconst 1, 1) := by decide +kernel
theorem dX8_come_78 : decode cX8_come 78 = .ok (.isub, 1) := by decide +kernel
theorem dX8_come_79 : decode cX8_come 79 = .ok (.ireturn, 1) := by decide +kernel
theorem dX8_earn_0 : decode cX8_earn 0 = .ok (.aload_n 0, 1) := by decide +kernel
theorem dX8_earn_1 : decode cX8_earn 1 = .ok (.iconst 0, 1) := by decide +kernel
theorem dX8_earn_2 : decode cX8_earn 2 = .ok (.putfield 28, 3) := by decide +kernel
theorem dX8_earn_5 : decode cX8_earn 5 = .ok (.aload_n 0, 1) := by decide +kernel
theorem dX8_earn_6 : decode cX8_earn 6 = .ok (.iload_n 1, 1) := by decide +kernel
theorem dX8_earn_7 : decode cX8_earn 7 = .ok (.invokevirtual 52, 3) := by decide +kernel
theorem dX8_earn_10 : decode cX8_earn 10 = .ok (.ifCond .ne 9, 3) := by decide +kernel
theorem dX8_earn_13 : decode cX8_earn 13 = .ok (.aload_n 0, 1) := by decide +kernel
theorem dX8_earn_14 : decode cX8_earn 14 = .ok (.iconst 1, 1) := by decide +kernel
theorem dX8_earn_15 : decode cX8_earn 15 = .ok (.invokevirtual 42, 3) := by decide +kernel
theorem dX8_earn_18 : decode cX8_earn 18 = .ok (.ireturn, 1) := by decide +kernel
theorem dX8_earn_19 : decode cX8_earn 19 = .ok (.iload_n 2, 1) := by decide +kernel
theorem dX8_earn_20 : decode cX8_earn 20 = .ok (.iconst 1, 1) := by decide +kernel
theorem dX8_earn_21 : decode cX8_earn 21 = .ok (.sipush 1000, 3) := by decide +kernel
theorem dX8_earn_24 : decode cX8_earn 24 = .ok (.invokestatic 35, 3) := by decide +kernel
theorem dX8_earn_27 : decode cX8_earn 27 = .ok (.ifCond .ne 9, 3) := by decide +kernel
theorem dX8_earn_30 : decode cX8_earn 30 = .ok (.aload_n 0, 1) := by decide +kernel
theorem dX8_earn_31 : decode cX8_earn 31 = .ok (.iconst 2, 1) := by decide +kernel
theorem dX8_earn_32 : decode cX8_earn 32 = .ok (.invokevirtual 42, 3) := by decide +kernel
theorem dX8_earn_35 : decode cX8_earn 35 = .ok (.ireturn, 1) := by decide +kernel
theorem dX8_earn_36 : decode cX8_earn 36 = .ok (.aload_n 0, 1) := by decide +kernel
theorem dX8_earn_37 : decode cX8_earn 37 = .ok (.getfield 21, 3) := by decide +kernel
theorem dX8_earn_40 : decode cX8_earn 40 = .ok (.getfield 46, 3) := by decide +kernel
theorem dX8_earn_43 : decode cX8_earn 43 = .ok (.iload_n 1, 1) := by decide +kernel
theorem dX8_earn_44 : decode cX8_earn 44 = .ok (.dup2, 1) := by decide +kernel
theorem dX8_earn_45 : decode cX8_earn 45 = .ok (.iaload, 1) := by decide +kernel
theorem dX8_earn_46 : decode cX8_earn 46 = .ok (.iload_n 2, 1) := by decide +kernel
theorem dX8_earn_47 : decode cX8_earn 47 = .ok (.iadd, 1) := by decide +kernel
theorem dX8_earn_48 : decode cX8_earn 48 = .ok (.iastore, 1) := by decide +kernel
theorem dX8_earn_49 : decode cX8_earn 49 = .ok (.aload_n 0, 1) := by decide +kernel
theorem dX8_earn_50 : decode cX8_earn 50 = .ok (.getfield 21, 3) := by decide +kernel
theorem dX8_earn_53 : decode cX8_earn 53 = .ok (.getfield 46, 3) := by decide +kernel
theorem dX8_earn_56 : decode cX8_earn 56 = .ok (.iload_n 1, 1) := by decide +kernel
theorem dX8_earn_57 : decode cX8_earn 57 = .ok (.iaload, 1) := by decide +kernel
theorem dX8_earn_58 : decode cX8_earn 58 = .ok (.ireturn, 1) := by decide +kernel
theorem dX8_setBuyer_0 : decode cX8_setBuyer 0 = .ok (.aload_n 0, 1) := by decide +kernel
theorem dX8_setBuyer_1 : decode cX8_setBuyer 1 = .ok (.iconst 0, 1) := by decide +kernel
theorem dX8_setBuyer_2 : decode cX8_setBuyer 2 = .ok (.putfield 28, 3) := by decide +kernel
theorem dX8_setBuyer_5 : decode cX8_setBuyer 5 = .ok (.iload_n 1, 1) := by decide +kernel
theorem dX8_setBuyer_6 : decode cX8_setBuyer 6 = .ok (.iconst 0, 1) := by decide +kernel
theorem dX8_setBuyer_7 : decode cX8_setBuyer 7 = .ok (.bipush 6, 2) := by decide +kernel
theorem dX8_setBuyer_9 : decode cX8_setBuyer 9 = .ok (.invokestatic 35, 3) := by decide +kernel
theorem dX8_setBuyer_12 : decode cX8_setBuyer 12 = .ok (.ifCond .ne 9, 3) := by decide +kernel
theorem dX8_setBuyer_15 : decode cX8_setBuyer 15 = .ok (.aload_n 0, 1) := by decide +kernel
theorem dX8_setBuyer_16 : decode cX8_setBuyer 16 = .ok (.iconst 1, 1) := by decide +kernel
theorem dX8_setBuyer_17 : decode cX8_setBuyer 17 = .ok (.invokevirtual 42, 3) := by decide +kernel
theorem dX8_setBuyer_20 : decode cX8_setBuyer 20 = .ok (.ireturn, 1) := by decide +kernel
theorem dX8_setBuyer_21 : decode cX8_setBuyer 21 = .ok (.iload_n 2, 1) := by decide +kernel
theorem dX8_setBuyer_22 : decode cX8_setBuyer 22 = .ok (.iconst (-1), 1) := by decide +kernel
theorem dX8_setBuyer_23 : decode cX8_setBuyer 23 = .ok (.iconst 4, 1) := by decide +kernel
theorem dX8_setBuyer_24 : decode cX8_setBuyer 24 = .ok (.invokestatic 35, 3) := by decide +kernel
theorem dX8_setBuyer_27 : decode cX8_setBuyer 27 = .ok (.ifCond .eq 14, 3) := by decide +kernel
theorem dX8_setBuyer_30 : decode cX8_setBuyer 30 = .ok (.iload_n 3, 1) := by decide +kernel
theorem dX8_setBuyer_31 : decode cX8_setBuyer 31 = .ok (.iconst 0, 1) := by decide +kernel
theorem dX8_setBuyer_32 : decode cX8_setBuyer 32 = .ok (.sipush 500, 3) := by decide +kernel
theorem dX8_setBuyer_35 : decode cX8_setBuyer 35 = .ok (.invokestatic 35, 3) := by decide +kernel
theorem dX8_setBuyer_38 : decode cX8_setBuyer 38 = .ok (.ifCond .ne 9, 3) := by decide +kernel
theorem dX8_setBuyer_41 : decode cX8_setBuyer 41 = .ok (.aload_n 0, 1) := by decide +kernel
theorem dX8_setBuyer_42 : decode cX8_setBuyer 42 = .ok (.iconst 2, 1) := by decide +kernel
theorem dX8_setBuyer_43 : decode cX8_setBuyer 43 = .ok (.invokevirtual 42, 3) := by decide +kernel
theorem dX8_setBuyer_46 : decode cX8_setBuyer 46 = .ok (.ireturn, 1) := by decide +kernel
theorem dX8_setBuyer_47 : decode cX8_setBuyer 47 = .ok (.aload_n 0, 1) := by decide +kernel
theorem dX8_setBuyer_48 : decode cX8_setBuyer 48 = .ok (.getfield 9, 3) := by decide +kernel
theorem dX8_setBuyer_51 : decode cX8_setBuyer 51 = .ok (.iload_n 1, 1) := by decide +kernel
theorem dX8_setBuyer_52 : decode cX8_setBuyer 52 = .ok (.iaload, 1) := by decide +kernel
theorem dX8_setBuyer_53 : decode cX8_setBuyer 53 = .ok (.istore 4, 2) := by decide +kernel
theorem dX8_setBuyer_55 : decode cX8_setBuyer 55 = .ok (.aload_n 0, 1) := by decide +kernel
theorem dX8_setBuyer_56 : decode cX8_setBuyer 56 = .ok (.getfield 9, 3) := by decide +kernel
theorem dX8_setBuyer_59 : decode cX8_setBuyer 59 = .ok (.iload_n 1, 1) := by decide +kernel
theorem dX8_setBuyer_60 : decode cX8_setBuyer 60 = .ok (.iload_n 2, 1) := by decide +kernel
theorem dX8_setBuyer_61 : decode cX8_setBuyer 61 = .ok (.iastore, 1) := by decide +kernel
theorem dX8_setBuyer_62 : decode cX8_setBuyer 62 = .ok (.aload_n 0, 1) := by decide +kernel
theorem dX8_setBuyer_63 : decode cX8_setBuyer 63 = .ok (.getfield 13, 3) := by decide +kernel
theorem dX8_setBuyer_66 : decode cX8_setBuyer 66 = .ok (.iload_n 1, 1) := by decide +kernel
theorem dX8_setBuyer_67 : decode cX8_setBuyer 67 = .ok (.iload_n 2, 1) := by decide +kernel
theorem dX8_setBuyer_68 : decode cX8_setBuyer 68 = .ok (.iconst (-1), 1) := by decide +kernel
theorem dX8_setBuyer_69 : decode cX8_setBuyer 69 = .ok (.if_icmp .ne 7, 3) := by decide +kernel
theorem dX8_setBuyer_72 : decode cX8_setBuyer 72 = .ok (.iconst 0, 1) := by decide +kernel
theorem dX8_setBuyer_73 : decode cX8_setBuyer 73 = .ok (.goto 4, 3) := by decide +kernel
theorem dX8_setBuyer_76 : decode cX8_setBuyer 76 = .ok (.iload_n 3, 1) := by decide +kernel
theorem dX8_setBuyer_77 : decode cX8_setBuyer 77 = .ok (.iastore, 1) := by decide +kernel
theorem dX8_setBuyer_78 : decode cX8_setBuyer 78 = .ok (.iload 4, 2) := by decide +kernel
theorem dX8_setBuyer_80 : decode cX8_setBuyer 80 = .ok (.ireturn, 1) := by decide +kernel
theorem dX8_customerTold_0 : decode cX8_customerTold 0 = .ok (.iload_n 2, 1) := by decide +kernel
theorem dX8_customerTold_1 : decode cX8_customerTold 1 = .ok (.iconst 2, 1) := by decide +kernel
theorem dX8_customerTold_2 : decode cX8_customerTold 2 = .ok (.if_icmp .ge 29, 3) := by decide +kernel
theorem dX8_customerTold_5 : decode cX8_customerTold 5 = .ok (.iload_n 2, 1) := by decide +kernel
theorem dX8_customerTold_6 : decode cX8_customerTold 6 = .ok (.ifCond .ne 15, 3) := by decide +kernel
theorem dX8_customerTold_9 : decode cX8_customerTold 9 = .ok (.aload_n 0, 1) := by decide +kernel
theorem dX8_customerTold_10 : decode cX8_customerTold 10 = .ok (.getfield 21, 3) := by decide +kernel
theorem dX8_customerTold_13 : decode cX8_customerTold 13 = .ok (.getfield 46, 3) := by decide +kernel
theorem dX8_customerTold_16 : decode cX8_customerTold 16 = .ok (.iload_n 1, 1) := by decide +kernel
theorem dX8_customerTold_17 : decode cX8_customerTold 17 = .ok (.iaload, 1) := by decide +kernel
theorem dX8_customerTold_18 : decode cX8_customerTold 18 = .ok (.goto 12, 3) := by decide +kernel
theorem dX8_customerTold_21 : decode cX8_customerTold 21 = .ok (.aload_n 0, 1) := by decide +kernel
theorem dX8_customerTold_22 : decode cX8_customerTold 22 = .ok (.getfield 21, 3) := by decide +kernel
theorem dX8_customerTold_25 : decode cX8_customerTold 25 = .ok (.getfield 49, 3) := by decide +kernel
theorem dX8_customerTold_28 : decode cX8_customerTold 28 = .ok (.iload_n 1, 1) := by decide +kernel
theorem dX8_customerTold_29 : decode cX8_customerTold 29 = .ok (.iaload, 1) := by decide +kernel
theorem dX8_customerTold_30 : decode cX8_customerTold 30 = .ok (.ireturn, 1) := by decide +kernel
theorem dX8_customerTold_31 : decode cX8_customerTold 31 = .ok (.iconst 0, 1) := by decide +kernel
theorem dX8_customerTold_32 : decode cX8_customerTold 32 = .ok (.istore_n 3, 1) := by decide +kernel
theorem dX8_customerTold_33 : decode cX8_customerTold 33 = .ok (.iconst 0, 1) := by decide +kernel
theorem dX8_customerTold_34 : decode cX8_customerTold 34 = .ok (.istore 4, 2) := by decide +kernel
theorem dX8_customerTold_36 : decode cX8_customerTold 36 = .ok (.iload 4, 2) := by decide +kernel
theorem dX8_customerTold_38 : decode cX8_customerTold 38 = .ok (.aload_n 0, 1) := by decide +kernel
theorem dX8_customerTold_39 : decode cX8_customerTold 39 = .ok (.getfield 21, 3) := by decide +kernel
theorem dX8_customerTold_42 : decode cX8_customerTold 42 = .ok (.getfield 39, 3) := by decide +kernel
theorem dX8_customerTold_45 : decode cX8_customerTold 45 = .ok (.if_icmp .ge 71, 3) := by decide +kernel
theorem dX8_customerTold_48 : decode cX8_customerTold 48 = .ok (.aload_n 0, 1) := by decide +kernel
theorem dX8_customerTold_49 : decode cX8_customerTold 49 = .ok (.getfield 21, 3) := by decide +kernel
theorem dX8_customerTold_52 : decode cX8_customerTold 52 = .ok (.iload 4, 2) := by decide +kernel
theorem dX8_customerTold_54 : decode cX8_customerTold 54 = .ok (.iconst 0, 1) := by decide +kernel
theorem dX8_customerTold_55 : decode cX8_customerTold 55 = .ok (.invokevirtual 56, 3) := by decide +kernel
theorem dX8_customerTold_58 : decode cX8_customerTold 58 = .ok (.iload_n 1, 1) := by decide +kernel
theorem dX8_customerTold_59 : decode cX8_customerTold 59 = .ok (.if_icmp .ne 51, 3) := by decide +kernel
theorem dX8_customerTold_62 : decode cX8_customerTold 62 = .ok (.aload_n 0, 1) := by decide +kernel
theorem dX8_customerTold_63 : decode cX8_customerTold 63 = .ok (.getfield 21, 3) := by decide +kernel
theorem dX8_customerTold_66 : decode cX8_customerTold 66 = .ok (.iload 4, 2) := by decide +kernel
theorem dX8_customerTold_68 : decode cX8_customerTold 68 = .ok (.bipush 6, 2) := by decide +kernel
theorem dX8_customerTold_70 : decode cX8_customerTold 70 = .ok (.invokevirtual 56, 3) := by decide +kernel
theorem dX8_customerTold_73 : decode cX8_customerTold 73 = .ok (.iload_n 2, 1) := by decide +kernel
theorem dX8_customerTold_74 : decode cX8_customerTold 74 = .ok (.iconst 4, 1) := by decide +kernel
theorem dX8_customerTold_75 : decode cX8_customerTold 75 = .ok (.if_icmp .ne 7, 3) := by decide +kernel
theorem dX8_customerTold_78 : decode cX8_customerTold 78 = .ok (.iconst 1, 1) := by decide +kernel
theorem dX8_customerTold_79 : decode cX8_customerTold 79 = .ok (.goto 4, 3) := by decide +kernel
theorem dX8_customerTold_82 : decode cX8_customerTold 82 = .ok (.iconst 0, 1) := by decide +kernel
theorem dX8_customerTold_83 : decode cX8_customerTold 83 = .ok (.if_icmp .eq 6, 3) := by decide +kernel
theorem dX8_customerTold_86 : decode cX8_customerTold 86 = .ok (.goto 24, 3) := by decide +kernel
theorem dX8_customerTold_89 : decode cX8_customerTold 89 = .ok (.iload_n 3, 1) := by decide +kernel
theorem dX8_customerTold_90 : decode cX8_customerTold 90 = .ok (.iload_n 2, 1) := by decide +kernel
theorem dX8_customerTold_91 : decode cX8_customerTold 91 = .ok (.iconst 3, 1) := by decide +kernel
theorem dX8_customerTold_92 : decode cX8_customerTold 92 = .ok (.if_icmp .ne 15, 3) := by decide +kernel
theorem dX8_customerTold_95 : decode cX8_customerTold 95 = .ok (.aload_n 0, 1) := by decide +kernel
theorem dX8_customerTold_96 : decode cX8_customerTold 96 = .ok (.getfield 21, 3) := by decide +kernel
theorem dX8_customerTold_99 : decode cX8_customerTold 99 = .ok (.iload 4, 2) := by decide +kernel
theorem dX8_customerTold_101 : decode cX8_customerTold 101 = .ok (.invokevirtual 60, 3) := by decide +kernel
theorem dX8_customerTold_104 : decode cX8_customerTold 104 = .ok (.goto 4, 3) := by decide +kernel
theorem dX8_customerTold_107 : decode cX8_customerTold 107 = .ok (.iconst 1, 1) := by decide +kernel
theorem dX8_customerTold_108 : decode cX8_customerTold 108 = .ok (.iadd, 1) := by decide +kernel
theorem dX8_customerTold_109 : decode cX8_customerTold 109 = .ok (.istore_n 3, 1) := by decide +kernel
theorem dX8_customerTold_110 : decode cX8_customerTold 110 = .ok (.iinc 4 1, 3) := by decide +kernel
theorem dX8_customerTold_113 : decode cX8_customerTold 113 = .ok (.goto (-77), 3) := by decide +kernel
theorem dX8_customerTold_116 : decode cX8_customerTold 116 = .ok (.iload_n 3, 1) := by decide +kernel
theorem dX8_customerTold_117 : decode cX8_customerTold 117 = .ok (.ireturn, 1) := by decide +kernel
theorem dX8_customer_0 : decode cX8_customer 0 = .ok (.aload_n 0, 1) := by decide +kernel
theorem dX8_customer_1 : decode cX8_customer 1 = .ok (.iconst 0, 1) := by decide +kernel
theorem dX8_customer_2 : decode cX8_customer 2 = .ok (.putfield 28, 3) := by decide +kernel
theorem dX8_customer_5 : decode cX8_customer 5 = .ok (.aload_n 0, 1) := by decide +kernel
theorem dX8_customer_6 : decode cX8_customer 6 = .ok (.iload_n 1, 1) := by decide +kernel
theorem dX8_customer_7 : decode cX8_customer 7 = .ok (.invokevirtual 52, 3) := by decide +kernel
theorem dX8_customer_10 : decode cX8_customer 10 = .ok (.ifCond .eq 21, 3) := by decide +kernel
theorem dX8_customer_13 : decode cX8_customer 13 = .ok (.iload_n 2, 1) := by decide +kernel
theorem dX8_customer_14 : decode cX8_customer 14 = .ok (.iconst 0, 1) := by decide +kernel
theorem dX8_customer_15 : decode cX8_customer 15 = .ok (.iconst 4, 1) := by decide +kernel
theorem dX8_customer_16 : decode cX8_customer 16 = .ok (.invokestatic 35, 3) := by decide +kernel
theorem dX8_customer_19 : decode cX8_customer 19 = .ok (.ifCond .eq 12, 3) := by decide +kernel
theorem dX8_customer_22 : decode cX8_customer 22 = .ok (.aload_n 0, 1) := by decide +kernel
theorem dX8_customer_23 : decode cX8_customer 23 = .ok (.iload_n 1, 1) := by decide +kernel
theorem dX8_customer_24 : decode cX8_customer 24 = .ok (.iload_n 2, 1) := by decide +kernel
theorem dX8_customer_25 : decode cX8_customer 25 = .ok (.invokevirtual 63, 3) := by decide +kernel
theorem dX8_customer_28 : decode cX8_customer 28 = .ok (.goto 8, 3) := by decide +kernel
theorem dX8_customer_31 : decode cX8_customer 31 = .ok (.aload_n 0, 1) := by decide +kernel
theorem dX8_customer_32 : decode cX8_customer 32 = .ok (.iconst 1, 1) := by decide +kernel
theorem dX8_customer_33 : decode cX8_customer 33 = .ok (.invokevirtual 42, 3) := by decide +kernel
theorem dX8_customer_36 : decode cX8_customer 36 = .ok (.ireturn, 1) := by decide +kernel
theorem dX8_pledge_0 : decode cX8_pledge 0 = .ok (.aload_n 0, 1) := by decide +kernel
theorem dX8_pledge_1 : decode cX8_pledge 1 = .ok (.iconst 0, 1) := by decide +kernel
theorem dX8_pledge_2 : decode cX8_pledge 2 = .ok (.putfield 28, 3) := by decide +kernel
theorem dX8_pledge_5 : decode cX8_pledge 5 = .ok (.aload_n 0, 1) := by decide +kernel
theorem dX8_pledge_6 : decode cX8_pledge 6 = .ok (.iload_n 1, 1) := by decide +kernel
theorem dX8_pledge_7 : decode cX8_pledge 7 = .ok (.invokevirtual 52, 3) := by decide +kernel
theorem dX8_pledge_10 : decode cX8_pledge 10 = .ok (.ifCond .ne 9, 3) := by decide +kernel
theorem dX8_pledge_13 : decode cX8_pledge 13 = .ok (.aload_n 0, 1) := by decide +kernel
theorem dX8_pledge_14 : decode cX8_pledge 14 = .ok (.iconst 1, 1) := by decide +kernel
theorem dX8_pledge_15 : decode cX8_pledge 15 = .ok (.invokevirtual 42, 3) := by decide +kernel
theorem dX8_pledge_18 : decode cX8_pledge 18 = .ok (.ireturn, 1) := by decide +kernel
theorem dX8_pledge_19 : decode cX8_pledge 19 = .ok (.iload_n 2, 1) := by decide +kernel
theorem dX8_pledge_20 : decode cX8_pledge 20 = .ok (.iconst 0, 1) := by decide +kernel
theorem dX8_pledge_21 : decode cX8_pledge 21 = .ok (.iconst 4, 1) := by decide +kernel
theorem dX8_pledge_22 : decode cX8_pledge 22 = .ok (.invokestatic 35, 3) := by decide +kernel
theorem dX8_pledge_25 : decode cX8_pledge 25 = .ok (.ifCond .eq 25, 3) := by decide +kernel
theorem dX8_pledge_28 : decode cX8_pledge 28 = .ok (.iload_n 3, 1) := by decide +kernel
theorem dX8_pledge_29 : decode cX8_pledge 29 = .ok (.iconst 1, 1) := by decide +kernel
theorem dX8_pledge_30 : decode cX8_pledge 30 = .ok (.sipush 500, 3) := by decide +kernel
theorem dX8_pledge_33 : decode cX8_pledge 33 = .ok (.invokestatic 35, 3) := by decide +kernel
theorem dX8_pledge_36 : decode cX8_pledge 36 = .ok (.ifCond .eq 14, 3) := by decide +kernel
theorem dX8_pledge_39 : decode cX8_pledge 39 = .ok (.iload 4, 2) := by decide +kernel
theorem dX8_pledge_41 : decode cX8_pledge 41 = .ok (.iconst 1, 1) := by decide +kernel
theorem dX8_pledge_42 : decode cX8_pledge 42 = .ok (.bipush 10, 2) := by decide +kernel
theorem dX8_pledge_44 : decode cX8_pledge 44 = .ok (.invokestatic 35, 3) := by decide +kernel
theorem dX8_pledge_47 : decode cX8_pledge 47 = .ok (.ifCond .ne 9, 3) := by decide +kernel
theorem dX8_pledge_50 : decode cX8_pledge 50 = .ok (.aload_n 0, 1) := by decide +kernel
theorem dX8_pledge_51 : decode cX8_pledge 51 = .ok (.iconst 2, 1) := by decide +kernel
theorem dX8_pledge_52 : decode cX8_pledge 52 = .ok (.invokevirtual 42, 3) := by decide +kernel
theorem dX8_pledge_55 : decode cX8_pledge 55 = .ok (.ireturn, 1) := by decide +kernel
theorem dX8_pledge_56 : decode cX8_pledge 56 = .ok (.iconst 1, 1) := by decide +kernel
theorem dX8_pledge_57 : decode cX8_pledge 57 = .ok (.iload_n 3, 1) := by decide +kernel
theorem dX8_pledge_58 : decode cX8_pledge 58 = .ok (.bipush 40, 2) := by decide +kernel
theorem dX8_pledge_60 : decode cX8_pledge 60 = .ok (.iconst 4, 1) := by decide +kernel
theorem dX8_pledge_61 : decode cX8_pledge 61 = .ok (.aload_n 0, 1) := by decide +kernel
theorem dX8_pledge_62 : decode cX8_pledge 62 = .ok (.getfield 21, 3) := by decide +kernel
theorem dX8_pledge_65 : decode cX8_pledge 65 = .ok (.getfield 49, 3) := by decide +kernel
theorem dX8_pledge_68 : decode cX8_pledge 68 = .ok (.iload_n 1, 1) := by decide +kernel
theorem dX8_pledge_69 : decode cX8_pledge 69 = .ok (.iaload, 1) := by decide +kernel
theorem dX8_pledge_70 : decode cX8_pledge 70 = .ok (.imul, 1) := by decide +kernel
theorem dX8_pledge_71 : decode cX8_pledge 71 = .ok (.iadd, 1) := by decide +kernel
theorem dX8_pledge_72 : decode cX8_pledge 72 = .ok (.imul, 1) := by decide +kernel
theorem dX8_pledge_73 : decode cX8_pledge 73 = .ok (.bipush 100, 2) := by decide +kernel
theorem dX8_pledge_75 : decode cX8_pledge 75 = .ok (.idiv, 1) := by decide +kernel
theorem dX8_pledge_76 : decode cX8_pledge 76 = .ok (.invokestatic 66, 3) := by decide +kernel
theorem dX8_pledge_79 : decode cX8_pledge 79 = .ok (.istore 5, 2) := by decide +kernel
theorem dX8_pledge_81 : decode cX8_pledge 81 = .ok (.aload_n 0, 1) := by decide +kernel
theorem dX8_pledge_82 : decode cX8_pledge 82 = .ok (.getfield 21, 3) := by decide +kernel
theorem dX8_pledge_85 : decode cX8_pledge 85 = .ok (.iload 4, 2) := by decide +kernel
theorem dX8_pledge_87 : decode cX8_pledge 87 = .ok (.invokevirtual 71, 3) := by decide +kernel
theorem dX8_pledge_90 : decode cX8_pledge 90 = .ok (.istore 6, 2) := by decide +kernel
theorem dX8_pledge_92 : decode cX8_pledge 92 = .ok (.aload_n 0, 1) := by decide +kernel
theorem dX8_pledge_93 : decode cX8_pledge 93 = .ok (.getfield 21, 3) := by decide +kernel
theorem dX8_pledge_96 : decode cX8_pledge 96 = .ok (.getfield 39, 3) := by decide +kernel
theorem dX8_pledge_99 : decode cX8_pledge 99 = .ok (.bipush 40, 2) := by decide +kernel
theorem dX8_pledge_101 : decode cX8_pledge 101 = .ok (.if_icmp .eq 21, 3) := by decide +kernel
theorem dX8_pledge_104 : decode cX8_pledge 104 = .ok (.iload 5, 2) := by decide +kernel
theorem dX8_pledge_106 : decode cX8_pledge 106 = .ok (.aload_n 0, 1) := by decide +kernel
theorem dX8_pledge_107 : decode cX8_pledge 107 = .ok (.getfield 21, 3) := by decide +kernel
theorem dX8_pledge_110 : decode cX8_pledge 110 = .ok (.getfield 74, 3) := by decide +kernel
theorem dX8_pledge_113 : decode cX8_pledge 113 = .ok (.if_icmp .gt 9, 3) := by decide +kernel
theorem dX8_pledge_116 : decode cX8_pledge 116 = .ok (.iload 6, 2) := by decide +kernel
theorem dX8_pledge_118 : decode cX8_pledge 118 = .ok (.iconst (-1), 1) := by decide +kernel
theorem dX8_pledge_119 : decode cX8_pledge 119 = .ok (.if_icmp .ne 9, 3) := by decide +kernel
theorem dX8_pledge_122 : decode cX8_pledge 122 = .ok (.aload_n 0, 1) := by decide +kernel
theorem dX8_pledge_123 : decode cX8_pledge 123 = .ok (.iconst 3, 1) := by decide +kernel
theorem dX8_pledge_124 : decode cX8_pledge 124 = .ok (.invokevirtual 42, 3) := by decide +kernel
theorem dX8_pledge_127 : decode cX8_pledge 127 = .ok (.ireturn, 1) := by decide +kernel
theorem dX8_pledge_128 : decode cX8_pledge 128 = .ok (.bipush 11, 2) := by decide +kernel
theorem dX8_pledge_130 : decode cX8_pledge 130 = .ok (.newarray .int, 2) := by decide +kernel
theorem dX8_pledge_132 : decode cX8_pledge 132 = .ok (.dup, 1) := by decide +kernel
theorem dX8_pledge_133 : decode cX8_pledge 133 = .ok (.iconst 0, 1) := by decide +kernel
theorem dX8_pledge_134 : decode cX8_pledge 134 = .ok (.iload_n 1, 1) := by decide +kernel
theorem dX8_pledge_135 : decode cX8_pledge 135 = .ok (.iastore, 1) := by decide +kernel
theorem dX8_pledge_136 : decode cX8_pledge 136 = .ok (.dup, 1) := by decide +kernel
theorem dX8_pledge_137 : decode cX8_pledge 137 = .ok (.iconst 1, 1) := by decide +kernel
theorem dX8_pledge_138 : decode cX8_pledge 138 = .ok (.iload_n 2, 1) := by decide +kernel
theorem dX8_pledge_139 : decode cX8_pledge 139 = .ok (.iastore, 1) := by decide +kernel
theorem dX8_pledge_140 : decode cX8_pledge 140 = .ok (.dup, 1) := by decide +kernel
theorem dX8_pledge_141 : decode cX8_pledge 141 = .ok (.iconst 2, 1) := by decide +kernel
theorem dX8_pledge_142 : decode cX8_pledge 142 = .ok (.iload_n 3, 1) := by decide +kernel
theorem dX8_pledge_143 : decode cX8_pledge 143 = .ok (.iastore, 1) := by decide +kernel
theorem dX8_pledge_144 : decode cX8_pledge 144 = .ok (.dup, 1) := by decide +kernel
theorem dX8_pledge_145 : decode cX8_pledge 145 = .ok (.iconst 3, 1) := by decide +kernel
theorem dX8_pledge_146 : decode cX8_pledge 146 = .ok (.iload 4, 2) := by decide +kernel
theorem dX8_pledge_148 : decode cX8_pledge 148 = .ok (.iastore, 1) := by decide +kernel
theorem dX8_pledge_149 : decode cX8_pledge 149 = .ok (.dup, 1) := by decide +kernel
theorem dX8_pledge_150 : decode cX8_pledge 150 = .ok (.iconst 4, 1) := by decide +kernel
theorem dX8_pledge_151 : decode cX8_pledge 151 = .ok (.iload 5, 2) := by decide +kernel
theorem dX8_pledge_153 : decode cX8_pledge 153 = .ok (.iastore, 1) := by decide +kernel
theorem dX8_pledge_154 : decode cX8_pledge 154 = .ok (.dup, 1) := by decide +kernel
theorem dX8_pledge_155 : decode cX8_pledge 155 = .ok (.iconst 5, 1) := by decide +kernel
theorem dX8_pledge_156 : decode cX8_pledge 156 = .ok (.aload_n 0, 1) := by decide +kernel
theorem dX8_pledge_157 : decode cX8_pledge 157 = .ok (.getfield 21, 3) := by decide +kernel
theorem dX8_pledge_160 : decode cX8_pledge 160 = .ok (.getfield 77, 3) := by decide +kernel
theorem dX8_pledge_163 : decode cX8_pledge 163 = .ok (.bipush 60, 2) := by decide +kernel
theorem dX8_pledge_165 : decode cX8_pledge 165 = .ok (.iadd, 1) := by decide +kernel
theorem dX8_pledge_166 : decode cX8_pledge 166 = .ok (.iastore, 1) := by decide +kernel
theorem dX8_pledge_167 : decode cX8_pledge 167 = .ok (.dup, 1) := by decide +kernel
theorem dX8_pledge_168 : decode cX8_pledge 168 = .ok (.bipush 6, 2) := by decide +kernel
theorem dX8_pledge_170 : decode cX8_pledge 170 = .ok (.iconst 0, 1) := by decide +kernel
theorem dX8_pledge_171 : decode cX8_pledge 171 = .ok (.iastore, 1) := by decide +kernel
theorem dX8_pledge_172 : decode cX8_pledge 172 = .ok (.dup, 1) := by decide +kernel
theorem dX8_pledge_173 : decode cX8_pledge 173 = .ok (.bipush 7, 2) := by decide +kernel
theorem dX8_pledge_175 : decode cX8_pledge 175 = .ok (.iload 6, 2) := by decide +kernel
theorem dX8_pledge_177 : decode cX8_pledge 177 = .ok (.iastore, 1) := by decide +kernel
theorem dX8_pledge_178 : decode cX8_pledge 178 = .ok (.dup, 1) := by decide +kernel
theorem dX8_pledge_179 : decode cX8_pledge 179 = .ok (.bipush 8, 2) := by decide +kernel
theorem dX8_pledge_181 : decode cX8_pledge 181 = .ok (.iconst 0, 1) := by decide +kernel
theorem dX8_pledge_182 : decode cX8_pledge 182 = .ok (.iastore, 1) := by decide +kernel
theorem dX8_pledge_183 : decode cX8_pledge 183 = .ok (.dup, 1) := by decide +kernel
theorem dX8_pledge_184 : decode cX8_pledge 184 = .ok (.bipush 9, 2) := by decide +kernel
theorem dX8_pledge_186 : decode cX8_pledge 186 = .ok (.iconst 0, 1) := by decide +kernel
theorem dX8_pledge_187 : decode cX8_pledge 187 = .ok (.iastore, 1) := by decide +kernel
theorem dX8_pledge_188 : decode cX8_pledge 188 = .ok (.dup, 1) := by decide +kernel
theorem dX8_pledge_189 : decode cX8_pledge 189 = .ok (.bipush 10, 2) := by decide +kernel
theorem dX8_pledge_191 : decode cX8_pledge 191 = .ok (.aload_n 0, 1) := by decide +kernel
theorem dX8_pledge_192 : decode cX8_pledge 192 = .ok (.getfield 21, 3) := by decide +kernel
theorem dX8_pledge_195 : decode cX8_pledge 195 = .ok (.getfield 77, 3) := by decide +kernel
theorem dX8_pledge_198 : decode cX8_pledge 198 = .ok (.iastore, 1) := by decide +kernel
theorem dX8_pledge_199 : decode cX8_pledge 199 = .ok (.astore 7, 2) := by decide +kernel
theorem dX8_pledge_201 : decode cX8_pledge 201 = .ok (.aload 7, 2) := by decide +kernel
theorem dX8_pledge_203 : decode cX8_pledge 203 = .ok (.iconst 0, 1) := by decide +kernel
theorem dX8_pledge_204 : decode cX8_pledge 204 = .ok (.aload_n 0, 1) := by decide +kernel
theorem dX8_pledge_205 : decode cX8_pledge 205 = .ok (.getfield 21, 3) := by decide +kernel
theorem dX8_pledge_208 : decode cX8_pledge 208 = .ok (.getfield 80, 3) := by decide +kernel
theorem dX8_pledge_211 : decode cX8_pledge 211 = .ok (.bipush 11, 2) := by decide +kernel
theorem dX8_pledge_213 : decode cX8_pledge 213 = .ok (.aload_n 0, 1) := by decide +kernel
theorem dX8_pledge_214 : decode cX8_pledge 214 = .ok (.getfield 21, 3) := by decide +kernel
theorem dX8_pledge_217 : decode cX8_pledge 217 = .ok (.getfield 39, 3) := by decide +kernel
theorem dX8_pledge_220 : decode cX8_pledge 220 = .ok (.imul, 1) := by decide +kernel
theorem dX8_pledge_221 : decode cX8_pledge 221 = .ok (.bipush 11, 2) := by decide +kernel
theorem dX8_pledge_223 : decode cX8_pledge 223 = .ok (.invokestatic 83, 3) := by decide +kernel
theorem dX8_pledge_226 : decode cX8_pledge 226 = .ok (.aload_n 0, 1) := by decide +kernel
theorem dX8_pledge_227 : decode cX8_pledge 227 = .ok (.getfield 21, 3) := by decide +kernel
theorem dX8_pledge_230 : decode cX8_pledge 230 = .ok (.aload_n 0, 1) := by decide +kernel
theorem dX8_pledge_231 : decode cX8_pledge 231 = .ok (.getfield 21, 3) := by decide +kernel
theorem dX8_pledge_234 : decode cX8_pledge 234 = .ok (.getfield 39, 3) := by decide +kernel
theorem dX8_pledge_237 : decode cX8_pledge 237 = .ok (.iload 6, 2) := by decide +kernel
theorem dX8_pledge_239 : decode cX8_pledge 239 = .ok (.invokevirtual 89, 3) := by decide +kernel
theorem dX8_pledge_242 : decode cX8_pledge 242 = .ok (.aload_n 0, 1) := by decide +kernel
theorem dX8_pledge_243 : decode cX8_pledge 243 = .ok (.getfield 21, 3) := by decide +kernel
theorem dX8_pledge_246 : decode cX8_pledge 246 = .ok (.dup, 1) := by decide +kernel
theorem dX8_pledge_247 : decode cX8_pledge 247 = .ok (.getfield 74, 3) := by decide +kernel
theorem dX8_pledge_250 : decode cX8_pledge 250 = .ok (.iload 5, 2) := by decide +kernel
theorem dX8_pledge_252 : decode cX8_pledge 252 = .ok (.isub, 1) := by decide +kernel
theorem dX8_pledge_253 : decode cX8_pledge 253 = .ok (.putfield 74, 3) := by decide +kernel
theorem dX8_pledge_256 : decode cX8_pledge 256 = .ok (.aload_n 0, 1) := by decide +kernel
theorem dX8_pledge_257 : decode cX8_pledge 257 = .ok (.getfield 21, 3) := by decide +kernel
theorem dX8_pledge_260 : decode cX8_pledge 260 = .ok (.getfield 46, 3) := by decide +kernel
theorem dX8_pledge_263 : decode cX8_pledge 263 = .ok (.iload_n 1, 1) := by decide +kernel
theorem dX8_pledge_264 : decode cX8_pledge 264 = .ok (.dup2, 1) := by decide +kernel
theorem dX8_pledge_265 : decode cX8_pledge 265 = .ok (.iaload, 1) := by decide +kernel
theorem dX8_pledge_266 : decode cX8_pledge 266 = .ok (.iload 5, 2) := by decide +kernel
theorem dX8_pledge_268 : decode cX8_pledge 268 = .ok (.iadd, 1) := by decide +kernel
theorem dX8_pledge_269 : decode cX8_pledge 269 = .ok (.iastore, 1) := by decide +kernel
theorem dX8_pledge_270 : decode cX8_pledge 270 = .ok (.aload_n 0, 1) := by decide +kernel
theorem dX8_pledge_271 : decode cX8_pledge 271 = .ok (.getfield 21, 3) := by decide +kernel
theorem dX8_pledge_274 : decode cX8_pledge 274 = .ok (.dup, 1) := by decide +kernel
theorem dX8_pledge_275 : decode cX8_pledge 275 = .ok (.getfield 39, 3) := by decide +kernel
theorem dX8_pledge_278 : decode cX8_pledge 278 = .ok (.iconst 1, 1) := by decide +kernel
theorem dX8_pledge_279 : decode cX8_pledge 279 = .ok (.iadd, 1) := by decide +kernel
theorem dX8_pledge_280 : decode cX8_pledge 280 = .ok (.putfield 39, 3) := by decide +kernel
theorem dX8_pledge_283 : decode cX8_pledge 283 = .ok (.aload_n 0, 1) := by decide +kernel
theorem dX8_pledge_284 : decode cX8_pledge 284 = .ok (.getfield 21, 3) := by decide +kernel
theorem dX8_pledge_287 : decode cX8_pledge 287 = .ok (.getfield 39, 3) := by decide +kernel
theorem dX8_pledge_290 : decode cX8_pledge 290 = .ok (.iconst 1, 1) := by decide +kernel
theorem dX8_pledge_291 : decode cX8_pledge 291 = .ok (.isub, 1) := by decide +kernel
theorem dX8_pledge_292 : decode cX8_pledge 292 = .ok (.ireturn, 1) := by decide +kernel
theorem dX8_shelfOf_0 : decode cX8_shelfOf 0 = .ok (.iload_n 0, 1) := by decide +kernel
theorem dX8_shelfOf_1 : decode cX8_shelfOf 1 = .ok (.getstatic 93, 3) := by decide +kernel
theorem dX8_shelfOf_4 : decode cX8_shelfOf 4 = .ok (.iconst 1, 1) := by decide +kernel
theorem dX8_shelfOf_5 : decode cX8_shelfOf 5 = .ok (.iaload, 1) := by decide +kernel
theorem dX8_shelfOf_6 : decode cX8_shelfOf 6 = .ok (.if_icmp .ge 7, 3) := by decide +kernel
theorem dX8_shelfOf_9 : decode cX8_shelfOf 9 = .ok (.iconst 0, 1) := by decide +kernel
theorem dX8_shelfOf_10 : decode cX8_shelfOf 10 = .ok (.goto 17, 3) := by decide +kernel
theorem dX8_shelfOf_13 : decode cX8_shelfOf 13 = .ok (.iload_n 0, 1) := by decide +kernel
theorem dX8_shelfOf_14 : decode cX8_shelfOf 14 = .ok (.getstatic 93, 3) := by decide +kernel
theorem dX8_shelfOf_17 : decode cX8_shelfOf 17 = .ok (.iconst 2, 1) := by decide +kernel
theorem dX8_shelfOf_18 : decode cX8_shelfOf 18 = .ok (.iaload, 1) := by decide +kernel
theorem dX8_shelfOf_19 : decode cX8_shelfOf 19 = .ok (.if_icmp .ge 7, 3) := by decide +kernel
theorem dX8_shelfOf_22 : decode cX8_shelfOf 22 = .ok (.iconst 1, 1) := by decide +kernel
theorem dX8_shelfOf_23 : decode cX8_shelfOf 23 = .ok (.goto 4, 3) := by decide +kernel
theorem dX8_shelfOf_26 : decode cX8_shelfOf 26 = .ok (.iconst 2, 1) := by decide +kernel
theorem dX8_shelfOf_27 : decode cX8_shelfOf 27 = .ok (.ireturn, 1) := by decide +kernel
theorem dX8_ticketTold_0 : decode cX8_ticketTold 0 = .ok (.aload_n 0, 1) := by decide +kernel
theorem dX8_ticketTold_1 : decode cX8_ticketTold 1 = .ok (.getfield 21, 3) := by decide +kernel
theorem dX8_ticketTold_4 : decode cX8_ticketTold 4 = .ok (.iload_n 1, 1) := by decide +kernel
theorem dX8_ticketTold_5 : decode cX8_ticketTold 5 = .ok (.bipush 7, 2) := by decide +kernel
theorem dX8_ticketTold_7 : decode cX8_ticketTold 7 = .ok (.invokevirtual 56, 3) := by decide +kernel
theorem dX8_ticketTold_10 : decode cX8_ticketTold 10 = .ok (.istore_n 3, 1) := by decide +kernel
theorem dX8_ticketTold_11 : decode cX8_ticketTold 11 = .ok (.iload_n 2, 1) := by decide +kernel
theorem dX8_ticketTold_12 : decode cX8_ticketTold 12 = .ok (.tableswitch 88 7 10 #[32, 46, 66, 77], 32) := by decide +kernel
theorem dX8_ticketTold_44 : decode cX8_ticketTold 44 = .ok (.iload_n 3, 1) := by decide +kernel
theorem dX8_ticketTold_45 : decode cX8_ticketTold 45 = .ok (.iconst (-1), 1) := by decide +kernel
theorem dX8_ticketTold_46 : decode cX8_ticketTold 46 = .ok (.if_icmp .ne 7, 3) := by decide +kernel
theorem dX8_ticketTold_49 : decode cX8_ticketTold 49 = .ok (.iconst (-1), 1) := by decide +kernel
theorem dX8_ticketTold_50 : decode cX8_ticketTold 50 = .ok (.goto 7, 3) := by decide +kernel
theorem dX8_ticketTold_53 : decode cX8_ticketTold 53 = .ok (.iload_n 3, 1) := by decide +kernel
theorem dX8_ticketTold_54 : decode cX8_ticketTold 54 = .ok (.invokestatic 96, 3) := by decide +kernel
theorem dX8_ticketTold_57 : decode cX8_ticketTold 57 = .ok (.ireturn, 1) := by decide +kernel
theorem dX8_ticketTold_58 : decode cX8_ticketTold 58 = .ok (.iload_n 3, 1) := by decide +kernel
theorem dX8_ticketTold_59 : decode cX8_ticketTold 59 = .ok (.iconst (-1), 1) := by decide +kernel
theorem dX8_ticketTold_60 : decode cX8_ticketTold 60 = .ok (.if_icmp .ne 7, 3) := by decide +kernel
theorem dX8_ticketTold_63 : decode cX8_ticketTold 63 = .ok (.iconst (-1), 1) := by decide +kernel
theorem dX8_ticketTold_64 : decode cX8_ticketTold 64 = .ok (.goto 13, 3) := by decide +kernel
theorem dX8_ticketTold_67 : decode cX8_ticketTold 67 = .ok (.iload_n 3, 1) := by decide +kernel
theorem dX8_ticketTold_68 : decode cX8_ticketTold 68 = .ok (.getstatic 93, 3) := by decide +kernel
theorem dX8_ticketTold_71 : decode cX8_ticketTold 71 = .ok (.iload_n 3, 1) := by decide +kernel
theorem dX8_ticketTold_72 : decode cX8_ticketTold 72 = .ok (.invokestatic 96, 3) := by decide +kernel
theorem dX8_ticketTold_75 : decode cX8_ticketTold 75 = .ok (.iaload, 1) := by decide +kernel
theorem dX8_ticketTold_76 : decode cX8_ticketTold 76 = .ok (.isub, 1) := by decide +kernel
theorem dX8_ticketTold_77 : decode cX8_ticketTold 77 = .ok (.ireturn, 1) := by decide +kernel
theorem dX8_ticketTold_78 : decode cX8_ticketTold 78 = .ok (.aload_n 0, 1) := by decide +kernel
theorem dX8_ticketTold_79 : decode cX8_ticketTold 79 = .ok (.getfield 21, 3) := by decide +kernel
theorem dX8_ticketTold_82 : decode cX8_ticketTold 82 = .ok (.iload_n 1, 1) := by decide +kernel
theorem dX8_ticketTold_83 : decode cX8_ticketTold 83 = .ok (.bipush 8, 2) := by decide +kernel
theorem dX8_ticketTold_85 : decode cX8_ticketTold 85 = .ok (.invokevirtual 56, 3) := by decide +kernel
theorem dX8_ticketTold_88 : decode cX8_ticketTold 88 = .ok (.ireturn, 1) := by decide +kernel
theorem dX8_ticketTold_89 : decode cX8_ticketTold 89 = .ok (.aload_n 0, 1) := by decide +kernel
theorem dX8_ticketTold_90 : decode cX8_ticketTold 90 = .ok (.getfield 21, 3) := by decide +kernel
theorem dX8_ticketTold_93 : decode cX8_ticketTold 93 = .ok (.iload_n 1, 1) := by decide +kernel
theorem dX8_ticketTold_94 : decode cX8_ticketTold 94 = .ok (.bipush 9, 2) := by decide +kernel
theorem dX8_ticketTold_96 : decode cX8_ticketTold 96 = .ok (.invokevirtual 56, 3) := by decide +kernel
theorem dX8_ticketTold_99 : decode cX8_ticketTold 99 = .ok (.ireturn, 1) := by decide +kernel
theorem dX8_ticketTold_100 : decode cX8_ticketTold 100 = .ok (.aload_n 0, 1) := by decide +kernel
theorem dX8_ticketTold_101 : decode cX8_ticketTold 101 = .ok (.getfield 21, 3) := by decide +kernel
theorem dX8_ticketTold_104 : decode cX8_ticketTold 104 = .ok (.iload_n 1, 1) := by decide +kernel
theorem dX8_ticketTold_105 : decode cX8_ticketTold 105 = .ok (.iload_n 2, 1) := by decide +kernel
theorem dX8_ticketTold_106 : decode cX8_ticketTold 106 = .ok (.invokevirtual 56, 3) := by decide +kernel
theorem dX8_ticketTold_109 : decode cX8_ticketTold 109 = .ok (.ireturn, 1) := by decide +kernel
theorem dX8_ticket_0 : decode cX8_ticket 0 = .ok (.aload_n 0, 1) := by decide +kernel
theorem dX8_ticket_1 : decode cX8_ticket 1 = .ok (.iconst 0, 1) := by decide +kernel
theorem dX8_ticket_2 : decode cX8_ticket 2 = .ok (.putfield 28, 3) := by decide +kernel
theorem dX8_ticket_5 : decode cX8_ticket 5 = .ok (.aload_n 0, 1) := by decide +kernel
theorem dX8_ticket_6 : decode cX8_ticket 6 = .ok (.iload_n 1, 1) := by decide +kernel
theorem dX8_ticket_7 : decode cX8_ticket 7 = .ok (.invokevirtual 99, 3) := by decide +kernel
theorem dX8_ticket_10 : decode cX8_ticket 10 = .ok (.ifCond .eq 22, 3) := by decide +kernel
theorem dX8_ticket_13 : decode cX8_ticket 13 = .ok (.iload_n 2, 1) := by decide +kernel
theorem dX8_ticket_14 : decode cX8_ticket 14 = .ok (.iconst 0, 1) := by decide +kernel
theorem dX8_ticket_15 : decode cX8_ticket 15 = .ok (.bipush 10, 2) := by decide +kernel
theorem dX8_ticket_17 : decode cX8_ticket 17 = .ok (.invokestatic 35, 3) := by decide +kernel
theorem dX8_ticket_20 : decode cX8_ticket 20 = .ok (.ifCond .eq 12, 3) := by decide +kernel
theorem dX8_ticket_23 : decode cX8_ticket 23 = .ok (.aload_n 0, 1) := by decide +kernel
theorem dX8_ticket_24 : decode cX8_ticket 24 = .ok (.iload_n 1, 1) := by decide +kernel
theorem dX8_ticket_25 : decode cX8_ticket 25 = .ok (.iload_n 2, 1) := by decide +kernel
theorem dX8_ticket_26 : decode cX8_ticket 26 = .ok (.invokevirtual 102, 3) := by decide +kernel
theorem dX8_ticket_29 : decode cX8_ticket 29 = .ok (.goto 8, 3) := by decide +kernel
theorem dX8_ticket_32 : decode cX8_ticket 32 = .ok (.aload_n 0, 1) := by decide +kernel
theorem dX8_ticket_33 : decode cX8_ticket 33 = .ok (.iconst 1, 1) := by decide +kernel
theorem dX8_ticket_34 : decode cX8_ticket 34 = .ok (.invokevirtual 42, 3) := by decide +kernel
theorem dX8_ticket_37 : decode cX8_ticket 37 = .ok (.ireturn, 1) := by decide +kernel
theorem dX8_owes_0 : decode cX8_owes 0 = .ok (.aload_n 0, 1) := by decide +kernel
theorem dX8_owes_1 : decode cX8_owes 1 = .ok (.iconst 0, 1) := by decide +kernel
theorem dX8_owes_2 : decode cX8_owes 2 = .ok (.putfield 28, 3) := by decide +kernel
theorem dX8_owes_5 : decode cX8_owes 5 = .ok (.aload_n 0, 1) := by decide +kernel
theorem dX8_owes_6 : decode cX8_owes 6 = .ok (.iload_n 1, 1) := by decide +kernel
theorem dX8_owes_7 : decode cX8_owes 7 = .ok (.invokevirtual 99, 3) := by decide +kernel
theorem dX8_owes_10 : decode cX8_owes 10 = .ok (.ifCond .eq 14, 3) := by decide +kernel
theorem dX8_owes_13 : decode cX8_owes 13 = .ok (.aload_n 0, 1) := by decide +kernel
theorem dX8_owes_14 : decode cX8_owes 14 = .ok (.getfield 21, 3) := by decide +kernel
theorem dX8_owes_17 : decode cX8_owes 17 = .ok (.iload_n 1, 1) := by decide +kernel
theorem dX8_owes_18 : decode cX8_owes 18 = .ok (.invokevirtual 60, 3) := by decide +kernel
theorem dX8_owes_21 : decode cX8_owes 21 = .ok (.goto 8, 3) := by decide +kernel
theorem dX8_owes_24 : decode cX8_owes 24 = .ok (.aload_n 0, 1) := by decide +kernel
theorem dX8_owes_25 : decode cX8_owes 25 = .ok (.iconst 1, 1) := by decide +kernel
theorem dX8_owes_26 : decode cX8_owes 26 = .ok (.invokevirtual 42, 3) := by decide +kernel
theorem dX8_owes_29 : decode cX8_owes 29 = .ok (.ireturn, 1) := by decide +kernel
theorem dX8_pay_0 : decode cX8_pay 0 = .ok (.aload_n 0, 1) := by decide +kernel
theorem dX8_pay_1 : decode cX8_pay 1 = .ok (.getfield 21, 3) := by decide +kernel
theorem dX8_pay_4 : decode cX8_pay 4 = .ok (.getfield 46, 3) := by decide +kernel
theorem dX8_pay_7 : decode cX8_pay 7 = .ok (.iload_n 1, 1) := by decide +kernel
theorem dX8_pay_8 : decode cX8_pay 8 = .ok (.dup2, 1) := by decide +kernel
theorem dX8_pay_9 : decode cX8_pay 9 = .ok (.iaload, 1) := by decide +kernel
theorem dX8_pay_10 : decode cX8_pay 10 = .ok (.iload_n 2, 1) := by decide +kernel
theorem dX8_pay_11 : decode cX8_pay 11 = .ok (.isub, 1) := by decide +kernel
theorem dX8_pay_12 : decode cX8_pay 12 = .ok (.iastore, 1) := by decide +kernel
theorem dX8_pay_13 : decode cX8_pay 13 = .ok (.aload_n 0, 1) := by decide +kernel
theorem dX8_pay_14 : decode cX8_pay 14 = .ok (.getfield 21, 3) := by decide +kernel
theorem dX8_pay_17 : decode cX8_pay 17 = .ok (.dup, 1) := by decide +kernel
theorem dX8_pay_18 : decode cX8_pay 18 = .ok (.getfield 74, 3) := by decide +kernel
theorem dX8_pay_21 : decode cX8_pay 21 = .ok (.iload_n 2, 1) := by decide +kernel
theorem dX8_pay_22 : decode cX8_pay 22 = .ok (.iadd, 1) := by decide +kernel
theorem dX8_pay_23 : decode cX8_pay 23 = .ok (.putfield 74, 3) := by decide +kernel
theorem dX8_pay_26 : decode cX8_pay 26 = .ok (.aload_n 0, 1) := by decide +kernel
theorem dX8_pay_27 : decode cX8_pay 27 = .ok (.getfield 21, 3) := by decide +kernel
theorem dX8_pay_30 : decode cX8_pay 30 = .ok (.dup, 1) := by decide +kernel
theorem dX8_pay_31 : decode cX8_pay 31 = .ok (.getfield 105, 3) := by decide +kernel
theorem dX8_pay_34 : decode cX8_pay 34 = .ok (.iload_n 3, 1) := by decide +kernel
theorem dX8_pay_35 : decode cX8_pay 35 = .ok (.iadd, 1) := by decide +kernel
theorem dX8_pay_36 : decode cX8_pay 36 = .ok (.putfield 105, 3) := by decide +kernel
theorem dX8_pay_39 : decode cX8_pay 39 = .ok (.return_, 1) := by decide +kernel
theorem dX8_renew_0 : decode cX8_renew 0 = .ok (.aload_n 0, 1) := by decide +kernel
theorem dX8_renew_1 : decode cX8_renew 1 = .ok (.iconst 0, 1) := by decide +kernel
theorem dX8_renew_2 : decode cX8_renew 2 = .ok (.putfield 28, 3) := by decide +kernel
theorem dX8_renew_5 : decode cX8_renew 5 = .ok (.aload_n 0, 1) := by decide +kernel
theorem dX8_renew_6 : decode cX8_renew 6 = .ok (.iload_n 1, 1) := by decide +kernel
theorem dX8_renew_7 : decode cX8_renew 7 = .ok (.invokevirtual 99, 3) := by decide +kernel
theorem dX8_renew_10 : decode cX8_renew 10 = .ok (.ifCond .ne 9, 3) := by decide +kernel
theorem dX8_renew_13 : decode cX8_renew 13 = .ok (.aload_n 0, 1) := by decide +kernel
theorem dX8_renew_14 : decode cX8_renew 14 = .ok (.iconst 1, 1) := by decide +kernel
theorem dX8_renew_15 : decode cX8_renew 15 = .ok (.invokevirtual 42, 3) := by decide +kernel
theorem dX8_renew_18 : decode cX8_renew 18 = .ok (.ireturn, 1) := by decide +kernel
theorem dX8_renew_19 : decode cX8_renew 19 = .ok (.aload_n 0, 1) := by decide +kernel
theorem dX8_renew_20 : decode cX8_renew 20 = .ok (.getfield 21, 3) := by decide +kernel
theorem dX8_renew_23 : decode cX8_renew 23 = .ok (.iload_n 1, 1) := by decide +kernel
theorem dX8_renew_24 : decode cX8_renew 24 = .ok (.invokevirtual 108, 3) := by decide +kernel
theorem dX8_renew_27 : decode cX8_renew 27 = .ok (.istore_n 2, 1) := by decide +kernel
theorem dX8_renew_28 : decode cX8_renew 28 = .ok (.aload_n 0, 1) := by decide +kernel
theorem dX8_renew_29 : decode cX8_renew 29 = .ok (.getfield 21, 3) := by decide +kernel
theorem dX8_renew_32 : decode cX8_renew 32 = .ok (.iload_n 1, 1) := by decide +kernel
theorem dX8_renew_33 : decode cX8_renew 33 = .ok (.iconst 0, 1) := by decide +kernel
theorem dX8_renew_34 : decode cX8_renew 34 = .ok (.invokevirtual 56, 3) := by decide +kernel
theorem dX8_renew_37 : decode cX8_renew 37 = .ok (.istore_n 3, 1) := by decide +kernel
theorem dX8_renew_38 : decode cX8_renew 38 = .ok (.aload_n 0, 1) := by decide +kernel
theorem dX8_renew_39 : decode cX8_renew 39 = .ok (.getfield 21, 3) := by decide +kernel
theorem dX8_renew_42 : decode cX8_renew 42 = .ok (.iload_n 1, 1) := by decide +kernel
theorem dX8_renew_43 : decode cX8_renew 43 = .ok (.bipush 6, 2) := by decide +kernel
theorem dX8_renew_45 : decode cX8_renew 45 = .ok (.invokevirtual 56, 3) := by decide +kernel
theorem dX8_renew_48 : decode cX8_renew 48 = .ok (.ifCond .ne 30, 3) := by decide +kernel
theorem dX8_renew_51 : decode cX8_renew 51 = .ok (.aload_n 0, 1) := by decide +kernel
theorem dX8_renew_52 : decode cX8_renew 52 = .ok (.getfield 21, 3) := by decide +kernel
theorem dX8_renew_55 : decode cX8_renew 55 = .ok (.iload_n 1, 1) := by decide +kernel
theorem dX8_renew_56 : decode cX8_renew 56 = .ok (.bipush 9, 2) := by decide +kernel
theorem dX8_renew_58 : decode cX8_renew 58 = .ok (.invokevirtual 56, 3) := by decide +kernel
theorem dX8_renew_61 : decode cX8_renew 61 = .ok (.iconst 3, 1) := by decide +kernel
theorem dX8_renew_62 : decode cX8_renew 62 = .ok (.if_icmp .eq 16, 3) := by decide +kernel
theorem dX8_renew_65 : decode cX8_renew 65 = .ok (.iload_n 2, 1) := by decide +kernel
theorem dX8_renew_66 : decode cX8_renew 66 = .ok (.aload_n 0, 1) := by decide +kernel
theorem dX8_renew_67 : decode cX8_renew 67 = .ok (.getfield 21, 3) := by decide +kernel
theorem dX8_renew_70 : decode cX8_renew 70 = .ok (.getfield 46, 3) := by decide +kernel
theorem dX8_renew_73 : decode cX8_renew 73 = .ok (.iload_n 3, 1) := by decide +kernel
theorem dX8_renew_74 : decode cX8_renew 74 = .ok (.iaload, 1) := by decide +kernel
theorem dX8_renew_75 : decode cX8_renew 75 = .ok (.if_icmp .le 9, 3) := by decide +kernel
theorem dX8_renew_78 : decode cX8_renew 78 = .ok (.aload_n 0, 1) := by decide +kernel
theorem dX8_renew_79 : decode cX8_renew 79 = .ok (.iconst 2, 1) := by decide +kernel
theorem dX8_renew_80 : decode cX8_renew 80 = .ok (.invokevirtual 42, 3) := by decide +kernel
theorem dX8_renew_83 : decode cX8_renew 83 = .ok (.ireturn, 1) := by decide +kernel
theorem dX8_renew_84 : decode cX8_renew 84 = .ok (.aload_n 0, 1) := by decide +kernel
theorem dX8_renew_85 : decode cX8_renew 85 = .ok (.iload_n 3, 1) := by decide +kernel
theorem dX8_renew_86 : decode cX8_renew 86 = .ok (.iload_n 2, 1) := by decide +kernel
theorem dX8_renew_87 : decode cX8_renew 87 = .ok (.iload_n 2, 1) := by decide +kernel
theorem dX8_renew_88 : decode cX8_renew 88 = .ok (.invokevirtual 111, 3) := by decide +kernel
theorem dX8_renew_91 : decode cX8_renew 91 = .ok (.aload_n 0, 1) := by decide +kernel
theorem dX8_renew_92 : decode cX8_renew 92 = .ok (.getfield 21, 3) := by decide +kernel
theorem dX8_renew_95 : decode cX8_renew 95 = .ok (.iload_n 1, 1) := by decide +kernel
theorem dX8_renew_96 : decode cX8_renew 96 = .ok (.iconst 5, 1) := by decide +kernel
theorem dX8_renew_97 : decode cX8_renew 97 = .ok (.aload_n 0, 1) := by decide +kernel
theorem dX8_renew_98 : decode cX8_renew 98 = .ok (.getfield 21, 3) := by decide +kernel
theorem dX8_renew_101 : decode cX8_renew 101 = .ok (.getfield 77, 3) := by decide +kernel
theorem dX8_renew_104 : decode cX8_renew 104 = .ok (.bipush 60, 2) := by decide +kernel
theorem dX8_renew_106 : decode cX8_renew 106 = .ok (.iadd, 1) := by decide +kernel
theorem dX8_renew_107 : decode cX8_renew 107 = .ok (.invokevirtual 115, 3) := by decide +kernel
theorem dX8_renew_110 : decode cX8_renew 110 = .ok (.aload_n 0, 1) := by decide +kernel
theorem dX8_renew_111 : decode cX8_renew 111 = .ok (.getfield 21, 3) := by decide +kernel
theorem dX8_renew_114 : decode cX8_renew 114 = .ok (.iload_n 1, 1) := by decide +kernel
theorem dX8_renew_115 : decode cX8_renew 115 = .ok (.bipush 10, 2) := by decide +kernel
theorem dX8_renew_117 : decode cX8_renew 117 = .ok (.aload_n 0, 1) := by decide +kernel
theorem dX8_renew_118 : decode cX8_renew 118 = .ok (.getfield 21, 3) := by decide +kernel
theorem dX8_renew_121 : decode cX8_renew 121 = .ok (.getfield 77, 3) := by decide +kernel
theorem dX8_renew_124 : decode cX8_renew 124 = .ok (.invokevirtual 115, 3) := by decide +kernel
theorem dX8_renew_127 : decode cX8_renew 127 = .ok (.aload_n 0, 1) := by decide +kernel
theorem dX8_renew_128 : decode cX8_renew 128 = .ok (.getfield 21, 3) := by decide +kernel
theorem dX8_renew_131 : decode cX8_renew 131 = .ok (.iload_n 1, 1) := by decide +kernel
theorem dX8_renew_132 : decode cX8_renew 132 = .ok (.bipush 9, 2) := by decide +kernel
theorem dX8_renew_134 : decode cX8_renew 134 = .ok (.aload_n 0, 1) := by decide +kernel
theorem dX8_renew_135 : decode cX8_renew 135 = .ok (.getfield 21, 3) := by decide +kernel
theorem dX8_renew_138 : decode cX8_renew 138 = .ok (.iload_n 1, 1) := by decide +kernel
theorem dX8_renew_139 : decode cX8_renew 139 = .ok (.bipush 9, 2) := by decide +kernel
theorem dX8_renew_141 : decode cX8_renew 141 = .ok (.invokevirtual 56, 3) := by decide +kernel
theorem dX8_renew_144 : decode cX8_renew 144 = .ok (.iconst 1, 1) := by decide +kernel
theorem dX8_renew_145 : decode cX8_renew 145 = .ok (.iadd, 1) := by decide +kernel
theorem dX8_renew_146 : decode cX8_renew 146 = .ok (.invokevirtual 115, 3) := by decide +kernel
theorem dX8_renew_149 : decode cX8_renew 149 = .ok (.iload_n 2, 1) := by decide +kernel
theorem dX8_renew_150 : decode cX8_renew 150 = .ok (.ireturn, 1) := by decide +kernel
theorem dX8_fetch_0 : decode cX8_fetch 0 = .ok (.aload_n 0, 1) := by decide +kernel
theorem dX8_fetch_1 : decode cX8_fetch 1 = .ok (.iconst 0, 1) := by decide +kernel
theorem dX8_fetch_2 : decode cX8_fetch 2 = .ok (.putfield 28, 3) := by decide +kernel
theorem dX8_fetch_5 : decode cX8_fetch 5 = .ok (.aload_n 0, 1) := by decide +kernel
theorem dX8_fetch_6 : decode cX8_fetch 6 = .ok (.iload_n 1, 1) := by decide +kernel
theorem dX8_fetch_7 : decode cX8_fetch 7 = .ok (.invokevirtual 99, 3) := by decide +kernel
theorem dX8_fetch_10 : decode cX8_fetch 10 = .ok (.ifCond .ne 9, 3) := by decide +kernel
theorem dX8_fetch_13 : decode cX8_fetch 13 = .ok (.aload_n 0, 1) := by decide +kernel
theorem dX8_fetch_14 : decode cX8_fetch 14 = .ok (.iconst 1, 1) := by decide +kernel
theorem dX8_fetch_15 : decode cX8_fetch 15 = .ok (.invokevirtual 42, 3) := by decide +kernel
theorem dX8_fetch_18 : decode cX8_fetch 18 = .ok (.ireturn, 1) := by decide +kernel
theorem dX8_fetch_19 : decode cX8_fetch 19 = .ok (.aload_n 0, 1) := by decide +kernel
theorem dX8_fetch_20 : decode cX8_fetch 20 = .ok (.getfield 21, 3) := by decide +kernel
theorem dX8_fetch_23 : decode cX8_fetch 23 = .ok (.iload_n 1, 1) := by decide +kernel
theorem dX8_fetch_24 : decode cX8_fetch 24 = .ok (.invokevirtual 60, 3) := by decide +kernel
theorem dX8_fetch_27 : decode cX8_fetch 27 = .ok (.istore_n 2, 1) := by decide +kernel
theorem dX8_fetch_28 : decode cX8_fetch 28 = .ok (.aload_n 0, 1) := by decide +kernel
theorem dX8_fetch_29 : decode cX8_fetch 29 = .ok (.getfield 21, 3) := by decide +kernel
theorem dX8_fetch_32 : decode cX8_fetch 32 = .ok (.iload_n 1, 1) := by decide +kernel
theorem dX8_fetch_33 : decode cX8_fetch 33 = .ok (.iconst 0, 1) := by decide +kernel
theorem dX8_fetch_34 : decode cX8_fetch 34 = .ok (.invokevirtual 56, 3) := by decide +kernel
theorem dX8_fetch_37 : decode cX8_fetch 37 = .ok (.istore_n 3, 1) := by decide +kernel
theorem dX8_fetch_38 : decode cX8_fetch 38 = .ok (.aload_n 0, 1) := by decide +kernel
theorem dX8_fetch_39 : decode cX8_fetch 39 = .ok (.getfield 21, 3) := by decide +kernel
theorem dX8_fetch_42 : decode cX8_fetch 42 = .ok (.iload_n 1, 1) := by decide +kernel
theorem dX8_fetch_43 : decode cX8_fetch 43 = .ok (.bipush 6, 2) := by decide +kernel
theorem dX8_fetch_45 : decode cX8_fetch 45 = .ok (.invokevirtual 56, 3) := by decide +kernel
theorem dX8_fetch_48 : decode cX8_fetch 48 = .ok (.ifCond .ne 16, 3) := by decide +kernel
theorem dX8_fetch_51 : decode cX8_fetch 51 = .ok (.iload_n 2, 1) := by decide +kernel
theorem dX8_fetch_52 : decode cX8_fetch 52 = .ok (.aload_n 0, 1) := by decide +kernel
theorem dX8_fetch_53 : decode cX8_fetch 53 = .ok (.getfield 21, 3) := by decide +kernel
theorem dX8_fetch_56 : decode cX8_fetch 56 = .ok (.getfield 46, 3) := by decide +kernel
theorem dX8_fetch_59 : decode cX8_fetch 59 = .ok (.iload_n 3, 1) := by decide +kernel
theorem dX8_fetch_60 : decode cX8_fetch 60 = .ok (.iaload, 1) := by decide +kernel
theorem dX8_fetch_61 : decode cX8_fetch 61 = .ok (.if_icmp .le 9, 3) := by decide +kernel
theorem dX8_fetch_64 : decode cX8_fetch 64 = .ok (.aload_n 0, 1) := by decide +kernel
theorem dX8_fetch_65 : decode cX8_fetch 65 = .ok (.iconst 2, 1) := by decide +kernel
theorem dX8_fetch_66 : decode cX8_fetch 66 = .ok (.invokevirtual 42, 3) := by decide +kernel
theorem dX8_fetch_69 : decode cX8_fetch 69 = .ok (.ireturn, 1) := by decide +kernel
theorem dX8_fetch_70 : decode cX8_fetch 70 = .ok (.aload_n 0, 1) := by decide +kernel
theorem dX8_fetch_71 : decode cX8_fetch 71 = .ok (.iload_n 3, 1) := by decide +kernel
theorem dX8_fetch_72 : decode cX8_fetch 72 = .ok (.iload_n 2, 1) := by decide +kernel
theorem dX8_fetch_73 : decode cX8_fetch 73 = .ok (.iload_n 2, 1) := by decide +kernel
theorem dX8_fetch_74 : decode cX8_fetch 74 = .ok (.aload_n 0, 1) := by decide +kernel
theorem dX8_fetch_75 : decode cX8_fetch 75 = .ok (.getfield 21, 3) := by decide +kernel
theorem dX8_fetch_78 : decode cX8_fetch 78 = .ok (.iload_n 1, 1) := by decide +kernel
theorem dX8_fetch_79 : decode cX8_fetch 79 = .ok (.iconst 4, 1) := by decide +kernel
theorem dX8_fetch_80 : decode cX8_fetch 80 = .ok (.invokevirtual 56, 3) := by decide +kernel
theorem dX8_fetch_83 : decode cX8_fetch 83 = .ok (.isub, 1) := by decide +kernel
theorem dX8_fetch_84 : decode cX8_fetch 84 = .ok (.invokevirtual 111, 3) := by decide +kernel
theorem dX8_fetch_87 : decode cX8_fetch 87 = .ok (.aload_n 0, 1) := by decide +kernel
theorem dX8_fetch_88 : decode cX8_fetch 88 = .ok (.getfield 21, 3) := by decide +kernel
theorem dX8_fetch_91 : decode cX8_fetch 91 = .ok (.iload_n 1, 1) := by decide +kernel
theorem dX8_fetch_92 : decode cX8_fetch 92 = .ok (.bipush 6, 2) := by decide +kernel
theorem dX8_fetch_94 : decode cX8_fetch 94 = .ok (.iconst 1, 1) := by decide +kernel
theorem dX8_fetch_95 : decode cX8_fetch 95 = .ok (.invokevirtual 115, 3) := by decide +kernel
theorem dX8_fetch_98 : decode cX8_fetch 98 = .ok (.aload_n 0, 1) := by decide +kernel
theorem dX8_fetch_99 : decode cX8_fetch 99 = .ok (.getfield 21, 3) := by decide +kernel
theorem dX8_fetch_102 : decode cX8_fetch 102 = .ok (.iload_n 1, 1) := by decide +kernel
theorem dX8_fetch_103 : decode cX8_fetch 103 = .ok (.invokevirtual 118, 3) := by decide +kernel
theorem dX8_fetch_106 : decode cX8_fetch 106 = .ok (.aload_n 0, 1) := by decide +kernel
theorem dX8_fetch_107 : decode cX8_fetch 107 = .ok (.getfield 21, 3) := by decide +kernel
theorem dX8_fetch_110 : decode cX8_fetch 110 = .ok (.getfield 49, 3) := by decide +kernel
theorem dX8_fetch_113 : decode cX8_fetch 113 = .ok (.iload_n 3, 1) := by decide +kernel
theorem dX8_fetch_114 : decode cX8_fetch 114 = .ok (.bipush 10, 2) := by decide +kernel
theorem dX8_fetch_116 : decode cX8_fetch 116 = .ok (.aload_n 0, 1) := by decide +kernel
theorem dX8_fetch_117 : decode cX8_fetch 117 = .ok (.getfield 21, 3) := by decide +kernel
theorem dX8_fetch_120 : decode cX8_fetch 120 = .ok (.getfield 49, 3) := by decide +kernel
theorem dX8_fetch_123 : decode cX8_fetch 123 = .ok (.iload_n 3, 1) := by decide +kernel
theorem dX8_fetch_124 : decode cX8_fetch 124 = .ok (.iaload, 1) := by decide +kernel
theorem dX8_fetch_125 : decode cX8_fetch 125 = .ok (.iconst 1, 1) := by decide +kernel
theorem dX8_fetch_126 : decode cX8_fetch 126 = .ok (.iadd, 1) := by decide +kernel
theorem dX8_fetch_127 : decode cX8_fetch 127 = .ok (.invokestatic 122, 3) := by decide +kernel
theorem dX8_fetch_130 : decode cX8_fetch 130 = .ok (.iastore, 1) := by decide +kernel
theorem dX8_fetch_131 : decode cX8_fetch 131 = .ok (.iload_n 2, 1) := by decide +kernel
theorem dX8_fetch_132 : decode cX8_fetch 132 = .ok (.ireturn, 1) := by decide +kernel
theorem dX8_at_0 : decode cX8_at 0 = .ok (.aload_n 0, 1) := by decide +kernel
theorem dX8_at_1 : decode cX8_at 1 = .ok (.iconst 0, 1) := by decide +kernel
theorem dX8_at_2 : decode cX8_at 2 = .ok (.putfield 28, 3) := by decide +kernel
theorem dX8_at_5 : decode cX8_at 5 = .ok (.iload_n 1, 1) := by decide +kernel
theorem dX8_at_6 : decode cX8_at 6 = .ok (.iconst 0, 1) := by decide +kernel
theorem dX8_at_7 : decode cX8_at 7 = .ok (.iconst 2, 1) := by decide +kernel
theorem dX8_at_8 : decode cX8_at 8 = .ok (.invokestatic 35, 3) := by decide +kernel
theorem dX8_at_11 : decode cX8_at 11 = .ok (.ifCond .eq 44, 3) := by decide +kernel
theorem dX8_at_14 : decode cX8_at 14 = .ok (.iload_n 2, 1) := by decide +kernel
theorem dX8_at_15 : decode cX8_at 15 = .ok (.iconst 0, 1) := by decide +kernel
theorem dX8_at_16 : decode cX8_at 16 = .ok (.getstatic 93, 3) := by decide +kernel
theorem dX8_at_19 : decode cX8_at 19 = .ok (.iload_n 1, 1) := by decide +kernel
theorem dX8_at_20 : decode cX8_at 20 = .ok (.iconst 1, 1) := by decide +kernel
theorem dX8_at_21 : decode cX8_at 21 = .ok (.iadd, 1) := by decide +kernel
theorem dX8_at_22 : decode cX8_at 22 = .ok (.iaload, 1) := by decide +kernel
theorem dX8_at_23 : decode cX8_at 23 = .ok (.getstatic 93, 3) := by decide +kernel
theorem dX8_at_26 : decode cX8_at 26 = .ok (.iload_n 1, 1) := by decide +kernel
theorem dX8_at_27 : decode cX8_at 27 = .ok (.iaload, 1) := by decide +kernel
theorem dX8_at_28 : decode cX8_at 28 = .ok (.isub, 1) := by decide +kernel
theorem dX8_at_29 : decode cX8_at 29 = .ok (.iconst 1, 1) := by decide +kernel
theorem dX8_at_30 : decode cX8_at 30 = .ok (.isub, 1) := by decide +kernel
theorem dX8_at_31 : decode cX8_at 31 = .ok (.invokestatic 35, 3) := by decide +kernel
theorem dX8_at_34 : decode cX8_at 34 = .ok (.ifCond .eq 21, 3) := by decide +kernel
theorem dX8_at_37 : decode cX8_at 37 = .ok (.aload_n 0, 1) := by decide +kernel
theorem dX8_at_38 : decode cX8_at 38 = .ok (.getfield 21, 3) := by decide +kernel
theorem dX8_at_41 : decode cX8_at 41 = .ok (.getfield 125, 3) := by decide +kernel
theorem dX8_at_44 : decode cX8_at 44 = .ok (.getstatic 93, 3) := by decide +kernel
theorem dX8_at_47 : decode cX8_at 47 = .ok (.iload_n 1, 1) := by decide +kernel
theorem dX8_at_48 : decode cX8_at 48 = .ok (.iaload, 1) := by decide +kernel
theorem dX8_at_49 : decode cX8_at 49 = .ok (.iload_n 2, 1) := by decide +kernel
theorem dX8_at_50 : decode cX8_at 50 = .ok (.iadd, 1) := by decide +kernel
theorem dX8_at_51 : decode cX8_at 51 = .ok (.iaload, 1) := by decide +kernel
theorem dX8_at_52 : decode cX8_at 52 = .ok (.goto 8, 3) := by decide +kernel
theorem dX8_at_55 : decode cX8_at 55 = .ok (.aload_n 0, 1) := by decide +kernel
theorem dX8_at_56 : decode cX8_at 56 = .ok (.iconst 1, 1) := by decide +kernel
theorem dX8_at_57 : decode cX8_at 57 = .ok (.invokevirtual 42, 3) := by decide +kernel
theorem dX8_at_60 : decode cX8_at 60 = .ok (.ireturn, 1) := by decide +kernel
theorem dX8_room_0 : decode cX8_room 0 = .ok (.aload_n 0, 1) := by decide +kernel
theorem dX8_room_1 : decode cX8_room 1 = .ok (.iconst 0, 1) := by decide +kernel
theorem dX8_room_2 : decode cX8_room 2 = .ok (.putfield 28, 3) := by decide +kernel
theorem dX8_room_5 : decode cX8_room 5 = .ok (.iload_n 1, 1) := by decide +kernel
theorem dX8_room_6 : decode cX8_room 6 = .ok (.iconst 1, 1) := by decide +kernel
theorem dX8_room_7 : decode cX8_room 7 = .ok (.bipush 10, 2) := by decide +kernel
theorem dX8_room_9 : decode cX8_room 9 = .ok (.invokestatic 35, 3) := by decide +kernel
theorem dX8_room_12 : decode cX8_room 12 = .ok (.ifCond .ne 9, 3) := by decide +kernel
theorem dX8_room_15 : decode cX8_room 15 = .ok (.aload_n 0, 1) := by decide +kernel
theorem dX8_room_16 : decode cX8_room 16 = .ok (.iconst 1, 1) := by decide +kernel
theorem dX8_room_17 : decode cX8_room 17 = .ok (.invokevirtual 42, 3) := by decide +kernel
theorem dX8_room_20 : decode cX8_room 20 = .ok (.ireturn, 1) := by decide +kernel
theorem dX8_room_21 : decode cX8_room 21 = .ok (.aload_n 0, 1) := by decide +kernel
theorem dX8_room_22 : decode cX8_room 22 = .ok (.getfield 21, 3) := by decide +kernel
theorem dX8_room_25 : decode cX8_room 25 = .ok (.iload_n 1, 1) := by decide +kernel
theorem dX8_room_26 : decode cX8_room 26 = .ok (.invokevirtual 71, 3) := by decide +kernel
theorem dX8_room_29 : decode cX8_room 29 = .ok (.istore_n 2, 1) := by decide +kernel
theorem dX8_room_30 : decode cX8_room 30 = .ok (.iload_n 2, 1) := by decide +kernel
theorem dX8_room_31 : decode cX8_room 31 = .ok (.iconst (-1), 1) := by decide +kernel
theorem dX8_room_32 : decode cX8_room 32 = .ok (.if_icmp .ne 7, 3) := by decide +kernel
theorem dX8_room_35 : decode cX8_room 35 = .ok (.iconst (-1), 1) := by decide +kernel
theorem dX8_room_36 : decode cX8_room 36 = .ok (.goto 21, 3) := by decide +kernel
theorem dX8_room_39 : decode cX8_room 39 = .ok (.bipush 100, 2) := by decide +kernel
theorem dX8_room_41 : decode cX8_room 41 = .ok (.iload_n 2, 1) := by decide +kernel
theorem dX8_room_42 : decode cX8_room 42 = .ok (.invokestatic 96, 3) := by decide +kernel
theorem dX8_room_45 : decode cX8_room 45 = .ok (.imul, 1) := by decide +kernel
theorem dX8_room_46 : decode cX8_room 46 = .ok (.iload_n 2, 1) := by decide +kernel
theorem dX8_room_47 : decode cX8_room 47 = .ok (.iadd, 1) := by decide +kernel
theorem dX8_room_48 : decode cX8_room 48 = .ok (.getstatic 93, 3) := by decide +kernel
theorem dX8_room_51 : decode cX8_room 51 = .ok (.iload_n 2, 1) := by decide +kernel
theorem dX8_room_52 : decode cX8_room 52 = .ok (.invokestatic 96, 3) := by decide +kernel
theorem dX8_room_55 : decode cX8_room 55 = .ok (.iaload, 1) := by decide +kernel
theorem dX8_room_56 : decode cX8_room 56 = .ok (.isub, 1) := by decide +kernel
theorem dX8_room_57 : decode cX8_room 57 = .ok (.ireturn, 1) := by decide +kernel
theorem dX8_tidy_0 : decode cX8_tidy 0 = .ok (.aload_n 0, 1) := by decide +kernel
theorem dX8_tidy_1 : decode cX8_tidy 1 = .ok (.iconst 0, 1) := by decide +kernel
theorem dX8_tidy_2 : decode cX8_tidy 2 = .ok (.putfield 28, 3) := by decide +kernel
theorem dX8_tidy_5 : decode cX8_tidy 5 = .ok (.iconst 0, 1) := by decide +kernel
theorem dX8_tidy_6 : decode cX8_tidy 6 = .ok (.istore_n 1, 1) := by decide +kernel
theorem dX8_tidy_7 : decode cX8_tidy 7 = .ok (.iconst 0, 1) := by decide +kernel
theorem dX8_tidy_8 : decode cX8_tidy 8 = .ok (.istore_n 2, 1) := by decide +kernel
theorem dX8_tidy_9 : decode cX8_tidy 9 = .ok (.iload_n 2, 1) := by decide +kernel
theorem dX8_tidy_10 : decode cX8_tidy 10 = .ok (.iconst 3, 1) := by decide +kernel
theorem dX8_tidy_11 : decode cX8_tidy 11 = .ok (.if_icmp .ge 118, 3) := by decide +kernel
theorem dX8_tidy_14 : decode cX8_tidy 14 = .ok (.getstatic 93, 3) := by decide +kernel
theorem dX8_tidy_17 : decode cX8_tidy 17 = .ok (.iload_n 2, 1) := by decide +kernel
theorem dX8_tidy_18 : decode cX8_tidy 18 = .ok (.iaload, 1) := by decide +kernel
theorem dX8_tidy_19 : decode cX8_tidy 19 = .ok (.istore_n 3, 1) := by decide +kernel
theorem dX8_tidy_20 : decode cX8_tidy 20 = .ok (.getstatic 93, 3) := by decide +kernel
theorem dX8_tidy_23 : decode cX8_tidy 23 = .ok (.iload_n 2, 1) := by decide +kernel
theorem dX8_tidy_24 : decode cX8_tidy 24 = .ok (.iaload, 1) := by decide +kernel
theorem dX8_tidy_25 : decode cX8_tidy 25 = .ok (.istore 4, 2) := by decide +kernel
theorem dX8_tidy_27 : decode cX8_tidy 27 = .ok (.iload 4, 2) := by decide +kernel
theorem dX8_tidy_29 : decode cX8_tidy 29 = .ok (.getstatic 93, 3) := by decide +kernel
theorem dX8_tidy_32 : decode cX8_tidy 32 = .ok (.iload_n 2, 1) := by decide +kernel
theorem dX8_tidy_33 : decode cX8_tidy 33 = .ok (.iconst 1, 1) := by decide +kernel
theorem dX8_tidy_34 : decode cX8_tidy 34 = .ok (.iadd, 1) := by decide +kernel
theorem dX8_tidy_35 : decode cX8_tidy 35 = .ok (.iaload, 1) := by decide +kernel
theorem dX8_tidy_36 : decode cX8_tidy 36 = .ok (.if_icmp .ge 87, 3) := by decide +kernel
theorem dX8_tidy_39 : decode cX8_tidy 39 = .ok (.aload_n 0, 1) := by decide +kernel
theorem dX8_tidy_40 : decode cX8_tidy 40 = .ok (.getfield 21, 3) := by decide +kernel
theorem dX8_tidy_43 : decode cX8_tidy 43 = .ok (.getfield 125, 3) := by decide +kernel
theorem dX8_tidy_46 : decode cX8_tidy 46 = .ok (.iload 4, 2) := by decide +kernel
theorem dX8_tidy_48 : decode cX8_tidy 48 = .ok (.iaload, 1) := by decide +kernel
theorem dX8_tidy_49 : decode cX8_tidy 49 = .ok (.istore 5, 2) := by decide +kernel
theorem dX8_tidy_51 : decode cX8_tidy 51 = .ok (.iload 5, 2) := by decide +kernel
theorem dX8_tidy_53 : decode cX8_tidy 53 = .ok (.iconst (-1), 1) := by decide +kernel
theorem dX8_tidy_54 : decode cX8_tidy 54 = .ok (.if_icmp .eq 63, 3) := by decide +kernel
theorem dX8_tidy_57 : decode cX8_tidy 57 = .ok (.aload_n 0, 1) := by decide +kernel
theorem dX8_tidy_58 : decode cX8_tidy 58 = .ok (.getfield 21, 3) := by decide +kernel
theorem dX8_tidy_61 : decode cX8_tidy 61 = .ok (.iload 5, 2) := by decide +kernel
theorem dX8_tidy_63 : decode cX8_tidy 63 = .ok (.bipush 7, 2) := by decide +kernel
theorem dX8_tidy_65 : decode cX8_tidy 65 = .ok (.invokevirtual 56, 3) := by decide +kernel
theorem dX8_tidy_68 : decode cX8_tidy 68 = .ok (.iload 4, 2) := by decide +kernel
theorem dX8_tidy_70 : decode cX8_tidy 70 = .ok (.if_icmp .eq 6, 3) := by decide +kernel
theorem dX8_tidy_73 : decode cX8_tidy 73 = .ok (.goto 44, 3) := by decide +kernel
theorem dX8_tidy_76 : decode cX8_tidy 76 = .ok (.iload_n 3, 1) := by decide +kernel
theorem dX8_tidy_77 : decode cX8_tidy 77 = .ok (.iload 4, 2) := by decide +kernel
theorem dX8_tidy_79 : decode cX8_tidy 79 = .ok (.if_icmp .ge 25, 3) := by decide +kernel
theorem dX8_tidy_82 : decode cX8_tidy 82 = .ok (.aload_n 0, 1) := by decide +kernel
theorem dX8_tidy_83 : decode cX8_tidy 83 = .ok (.getfield 21, 3) := by decide +kernel
theorem dX8_tidy_86 : decode cX8_tidy 86 = .ok (.iload 5, 2) := by decide +kernel
theorem dX8_tidy_88 : decode cX8_tidy 88 = .ok (.invokevirtual 118, 3) := by decide +kernel
theorem dX8_tidy_91 : decode cX8_tidy 91 = .ok (.aload_n 0, 1) := by decide +kernel
theorem dX8_tidy_92 : decode cX8_tidy 92 = .ok (.getfield 21, 3) := by decide +kernel
theorem dX8_tidy_95 : decode cX8_tidy 95 = .ok (.iload 5, 2) := by decide +kernel
theorem dX8_tidy_97 : decode cX8_tidy 97 = .ok (.iload_n 3, 1) := by decide +kernel
theorem dX8_tidy_98 : decode cX8_tidy 98 = .ok (.invokevirtual 89, 3) := by decide +kernel
theorem dX8_tidy_101 : decode cX8_tidy 101 = .ok (.iinc 1 1, 3) := by decide +kernel
theorem dX8_tidy_104 : decode cX8_tidy 104 = .ok (.iload_n 3, 1) := by decide +kernel
theorem dX8_tidy_105 : decode cX8_tidy 105 = .ok (.aload_n 0, 1) := by decide +kernel
theorem dX8_tidy_106 : decode cX8_tidy 106 = .ok (.getfield 21, 3) := by decide +kernel
theorem dX8_tidy_109 : decode cX8_tidy 109 = .ok (.iload 5, 2) := by decide +kernel
theorem dX8_tidy_111 : decode cX8_tidy 111 = .ok (.iconst 3, 1) := by decide +kernel
theorem dX8_tidy_112 : decode cX8_tidy 112 = .ok (.invokevirtual 56, 3) := by decide +kernel
theorem dX8_tidy_115 : decode cX8_tidy 115 = .ok (.iadd, 1) := by decide +kernel
theorem dX8_tidy_116 : decode cX8_tidy 116 = .ok (.istore_n 3, 1) := by decide +kernel
theorem dX8_tidy_117 : decode cX8_tidy 117 = .ok (.iinc 4 1, 3) := by decide +kernel
theorem dX8_tidy_120 : decode cX8_tidy 120 = .ok (.goto (-93), 3) := by decide +kernel
theorem dX8_tidy_123 : decode cX8_tidy 123 = .ok (.iinc 2 1, 3) := by decide +kernel
theorem dX8_tidy_126 : decode cX8_tidy 126 = .ok (.goto (-117), 3) := by decide +kernel
theorem dX8_tidy_129 : decode cX8_tidy 129 = .ok (.iload_n 1, 1) := by decide +kernel
theorem dX8_tidy_130 : decode cX8_tidy 130 = .ok (.ireturn, 1) := by decide +kernel
theorem dX8_pass_0 : decode cX8_pass 0 = .ok (.aload_n 0, 1) := by decide +kernel
theorem dX8_pass_1 : decode cX8_pass 1 = .ok (.iconst 0, 1) := by decide +kernel
theorem dX8_pass_2 : decode cX8_pass 2 = .ok (.putfield 28, 3) := by decide +kernel
theorem dX8_pass_5 : decode cX8_pass 5 = .ok (.iload_n 1, 1) := by decide +kernel
theorem dX8_pass_6 : decode cX8_pass 6 = .ok (.iconst 1, 1) := by decide +kernel
theorem dX8_pass_7 : decode cX8_pass 7 = .ok (.sipush 200, 3) := by decide +kernel
theorem dX8_pass_10 : decode cX8_pass 10 = .ok (.invokestatic 35, 3) := by decide +kernel
theorem dX8_pass_13 : decode cX8_pass 13 = .ok (.ifCond .ne 9, 3) := by decide +kernel
theorem dX8_pass_16 : decode cX8_pass 16 = .ok (.aload_n 0, 1) := by decide +kernel
theorem dX8_pass_17 : decode cX8_pass 17 = .ok (.iconst 1, 1) := by decide +kernel
theorem dX8_pass_18 : decode cX8_pass 18 = .ok (.invokevirtual 42, 3) := by decide +kernel
theorem dX8_pass_21 : decode cX8_pass 21 = .ok (.ireturn, 1) := by decide +kernel
theorem dX8_pass_22 : decode cX8_pass 22 = .ok (.iconst 0, 1) := by decide +kernel
theorem dX8_pass_23 : decode cX8_pass 23 = .ok (.istore_n 2, 1) := by decide +kernel
theorem dX8_pass_24 : decode cX8_pass 24 = .ok (.iconst 0, 1) := by decide +kernel
theorem dX8_pass_25 : decode cX8_pass 25 = .ok (.istore_n 3, 1) := by decide +kernel
theorem dX8_pass_26 : decode cX8_pass 26 = .ok (.iload_n 3, 1) := by decide +kernel
theorem dX8_pass_27 : decode cX8_pass 27 = .ok (.iload_n 1, 1) := by decide +kernel
theorem dX8_pass_28 : decode cX8_pass 28 = .ok (.if_icmp .ge 19, 3) := by decide +kernel
theorem dX8_pass_31 : decode cX8_pass 31 = .ok (.iload_n 2, 1) := by decide +kernel
theorem dX8_pass_32 : decode cX8_pass 32 = .ok (.aload_n 0, 1) := by decide +kernel
theorem dX8_pass_33 : decode cX8_pass 33 = .ok (.getfield 21, 3) := by decide +kernel
theorem dX8_pass_36 : decode cX8_pass 36 = .ok (.invokevirtual 128, 3) := by decide +kernel
theorem dX8_pass_39 : decode cX8_pass 39 = .ok (.iadd, 1) := by decide +kernel
theorem dX8_pass_40 : decode cX8_pass 40 = .ok (.istore_n 2, 1) := by decide +kernel
theorem dX8_pass_41 : decode cX8_pass 41 = .ok (.iinc 3 1, 3) := by decide +kernel
theorem dX8_pass_44 : decode cX8_pass 44 = .ok (.goto (-18), 3) := by decide +kernel
theorem dX8_pass_47 : decode cX8_pass 47 = .ok (.iload_n 2, 1) := by decide +kernel
theorem dX8_pass_48 : decode cX8_pass 48 = .ok (.ireturn, 1) := by decide +kernel
theorem dX8_counted_0 : decode cX8_counted 0 = .ok (.iconst 0, 1) := by decide +kernel
theorem dX8_counted_1 : decode cX8_counted 1 = .ok (.istore_n 2, 1) := by decide +kernel
theorem dX8_counted_2 : decode cX8_counted 2 = .ok (.iconst 0, 1) := by decide +kernel
theorem dX8_counted_3 : decode cX8_counted 3 = .ok (.istore_n 3, 1) := by decide +kernel
theorem dX8_counted_4 : decode cX8_counted 4 = .ok (.iconst 0, 1) := by decide +kernel
theorem dX8_counted_5 : decode cX8_counted 5 = .ok (.istore 4, 2) := by decide +kernel
theorem dX8_counted_7 : decode cX8_counted 7 = .ok (.iload 4, 2) := by decide +kernel
theorem dX8_counted_9 : decode cX8_counted 9 = .ok (.bipush 60, 2) := by decide +kernel
theorem dX8_counted_11 : decode cX8_counted 11 = .ok (.if_icmp .ge 31, 3) := by decide +kernel
theorem dX8_counted_14 : decode cX8_counted 14 = .ok (.iload_n 2, 1) := by decide +kernel
theorem dX8_counted_15 : decode cX8_counted 15 = .ok (.aload_n 0, 1) := by decide +kernel
theorem dX8_counted_16 : decode cX8_counted 16 = .ok (.getfield 21, 3) := by decide +kernel
theorem dX8_counted_19 : decode cX8_counted 19 = .ok (.getfield 125, 3) := by decide +kernel
theorem dX8_counted_22 : decode cX8_counted 22 = .ok (.iload 4, 2) := by decide +kernel
theorem dX8_counted_24 : decode cX8_counted 24 = .ok (.iaload, 1) := by decide +kernel
theorem dX8_counted_25 : decode cX8_counted 25 = .ok (.iconst (-1), 1) := by decide +kernel
theorem dX8_counted_26 : decode cX8_counted 26 = .ok (.if_icmp .ne 7, 3) := by decide +kernel
theorem dX8_counted_29 : decode cX8_counted 29 = .ok (.iconst 0, 1) := by decide +kernel
theorem dX8_counted_30 : decode cX8_counted 30 = .ok (.goto 4, 3) := by decide +kernel
theorem dX8_counted_33 : decode cX8_counted 33 = .ok (.iconst 1, 1) := by decide +kernel
theorem dX8_counted_34 : decode cX8_counted 34 = .ok (.iadd, 1) := by decide +kernel
theorem dX8_counted_35 : decode cX8_counted 35 = .ok (.istore_n 2, 1) := by decide +kernel
theorem dX8_counted_36 : decode cX8_counted 36 = .ok (.iinc 4 1, 3) := by decide +kernel
theorem dX8_counted_39 : decode cX8_counted 39 = .ok (.goto (-32), 3) := by decide +kernel
theorem dX8_counted_42 : decode cX8_counted 42 = .ok (.iconst 0, 1) := by decide +kernel
theorem dX8_counted_43 : decode cX8_counted 43 = .ok (.istore 4, 2) := by decide +kernel
theorem dX8_counted_45 : decode cX8_counted 45 = .ok (.iload 4, 2) := by decide +kernel
theorem dX8_counted_47 : decode cX8_counted 47 = .ok (.aload_n 0, 1) := by decide +kernel
theorem dX8_counted_48 : decode cX8_counted 48 = .ok (.getfield 21, 3) := by decide +kernel
theorem dX8_counted_51 : decode cX8_counted 51 = .ok (.getfield 39, 3) := by decide +kernel
theorem dX8_counted_54 : decode cX8_counted 54 = .ok (.if_icmp .ge 40, 3) := by decide +kernel
theorem dX8_counted_57 : decode cX8_counted 57 = .ok (.iload_n 3, 1) := by decide +kernel
theorem dX8_counted_58 : decode cX8_counted 58 = .ok (.aload_n 0, 1) := by decide +kernel
theorem dX8_counted_59 : decode cX8_counted 59 = .ok (.getfield 21, 3) := by decide +kernel
theorem dX8_counted_62 : decode cX8_counted 62 = .ok (.iload 4, 2) := by decide +kernel
theorem dX8_counted_64 : decode cX8_counted 64 = .ok (.bipush 6, 2) := by decide +kernel
theorem dX8_counted_66 : decode cX8_counted 66 = .ok (.invokevirtual 56, 3) := by decide +kernel
theorem dX8_counted_69 : decode cX8_counted 69 = .ok (.ifCond .ne 16, 3) := by decide +kernel
theorem dX8_counted_72 : decode cX8_counted 72 = .ok (.aload_n 0, 1) := by decide +kernel
theorem dX8_counted_73 : decode cX8_counted 73 = .ok (.getfield 21, 3) := by decide +kernel
theorem dX8_counted_76 : decode cX8_counted 76 = .ok (.iload 4, 2) := by decide +kernel
theorem dX8_counted_78 : decode cX8_counted 78 = .ok (.iconst 4, 1) := by decide +kernel
theorem dX8_counted_79 : decode cX8_counted 79 = .ok (.invokevirtual 56, 3) := by decide +kernel
theorem dX8_counted_82 : decode cX8_counted 82 = .ok (.goto 4, 3) := by decide +kernel
theorem dX8_counted_85 : decode cX8_counted 85 = .ok (.iconst 0, 1) := by decide +kernel
theorem dX8_counted_86 : decode cX8_counted 86 = .ok (.iadd, 1) := by decide +kernel
theorem dX8_counted_87 : decode cX8_counted 87 = .ok (.istore_n 3, 1) := by decide +kernel
theorem dX8_counted_88 : decode cX8_counted 88 = .ok (.iinc 4 1, 3) := by decide +kernel
theorem dX8_counted_91 : decode cX8_counted 91 = .ok (.goto (-46), 3) := by decide +kernel
theorem dX8_counted_94 : decode cX8_counted 94 = .ok (.bipush 11, 2) := by decide +kernel
theorem dX8_counted_96 : decode cX8_counted 96 = .ok (.newarray .int, 2) := by decide +kernel
theorem dX8_counted_98 : decode cX8_counted 98 = .ok (.dup, 1) := by decide +kernel
theorem dX8_counted_99 : decode cX8_counted 99 = .ok (.iconst 0, 1) := by decide +kernel
theorem dX8_counted_100 : decode cX8_counted 100 = .ok (.aload_n 0, 1) := by decide +kernel
theorem dX8_counted_101 : decode cX8_counted 101 = .ok (.getfield 21, 3) := by decide +kernel
theorem dX8_counted_104 : decode cX8_counted 104 = .ok (.getfield 77, 3) := by decide +kernel
theorem dX8_counted_107 : decode cX8_counted 107 = .ok (.iastore, 1) := by decide +kernel
theorem dX8_counted_108 : decode cX8_counted 108 = .ok (.dup, 1) := by decide +kernel
theorem dX8_counted_109 : decode cX8_counted 109 = .ok (.iconst 1, 1) := by decide +kernel
theorem dX8_counted_110 : decode cX8_counted 110 = .ok (.aload_n 0, 1) := by decide +kernel
theorem dX8_counted_111 : decode cX8_counted 111 = .ok (.getfield 21, 3) := by decide +kernel
theorem dX8_counted_114 : decode cX8_counted 114 = .ok (.getfield 74, 3) := by decide +kernel
theorem dX8_counted_117 : decode cX8_counted 117 = .ok (.iastore, 1) := by decide +kernel
theorem dX8_counted_118 : decode cX8_counted 118 = .ok (.dup, 1) := by decide +kernel
theorem dX8_counted_119 : decode cX8_counted 119 = .ok (.iconst 2, 1) := by decide +kernel
theorem dX8_counted_120 : decode cX8_counted 120 = .ok (.aload_n 0, 1) := by decide +kernel
theorem dX8_counted_121 : decode cX8_counted 121 = .ok (.getfield 32, 3) := by decide +kernel
theorem dX8_counted_124 : decode cX8_counted 124 = .ok (.iastore, 1) := by decide +kernel
theorem dX8_counted_125 : decode cX8_counted 125 = .ok (.dup, 1) := by decide +kernel
theorem dX8_counted_126 : decode cX8_counted 126 = .ok (.iconst 3, 1) := by decide +kernel
theorem dX8_counted_127 : decode cX8_counted 127 = .ok (.aload_n 0, 1) := by decide +kernel
theorem dX8_counted_128 : decode cX8_counted 128 = .ok (.getfield 21, 3) := by decide +kernel
theorem dX8_counted_131 : decode cX8_counted 131 = .ok (.getfield 39, 3) := by decide +kernel
theorem dX8_counted_134 : decode cX8_counted 134 = .ok (.iastore, 1) := by decide +kernel
theorem dX8_counted_135 : decode cX8_counted 135 = .ok (.dup, 1) := by decide +kernel
theorem dX8_counted_136 : decode cX8_counted 136 = .ok (.iconst 4, 1) := by decide +kernel
theorem dX8_counted_137 : decode cX8_counted 137 = .ok (.aload_n 0, 1) := by decide +kernel
theorem dX8_counted_138 : decode cX8_counted 138 = .ok (.getfield 21, 3) := by decide +kernel
theorem dX8_counted_141 : decode cX8_counted 141 = .ok (.iconst 0, 1) := by decide +kernel
theorem dX8_counted_142 : decode cX8_counted 142 = .ok (.invokevirtual 132, 3) := by decide +kernel
theorem dX8_counted_145 : decode cX8_counted 145 = .ok (.iastore, 1) := by decide +kernel
theorem dX8_counted_146 : decode cX8_counted 146 = .ok (.dup, 1) := by decide +kernel
theorem dX8_counted_147 : decode cX8_counted 147 = .ok (.iconst 5, 1) := by decide +kernel
theorem dX8_counted_148 : decode cX8_counted 148 = .ok (.aload_n 0, 1) := by decide +kernel
theorem dX8_counted_149 : decode cX8_counted 149 = .ok (.getfield 21, 3) := by decide +kernel
theorem dX8_counted_152 : decode cX8_counted 152 = .ok (.iconst 1, 1) := by decide +kernel
theorem dX8_counted_153 : decode cX8_counted 153 = .ok (.invokevirtual 132, 3) := by decide +kernel
theorem dX8_counted_156 : decode cX8_counted 156 = .ok (.iastore, 1) := by decide +kernel
theorem dX8_counted_157 : decode cX8_counted 157 = .ok (.dup, 1) := by decide +kernel
theorem dX8_counted_158 : decode cX8_counted 158 = .ok (.bipush 6, 2) := by decide +kernel
theorem dX8_counted_160 : decode cX8_counted 160 = .ok (.aload_n 0, 1) := by decide +kernel
theorem dX8_counted_161 : decode cX8_counted 161 = .ok (.getfield 21, 3) := by decide +kernel
theorem dX8_counted_164 : decode cX8_counted 164 = .ok (.iconst 2, 1) := by decide +kernel
theorem dX8_counted_165 : decode cX8_counted 165 = .ok (.invokevirtual 132, 3) := by decide +kernel
theorem dX8_counted_168 : decode cX8_counted 168 = .ok (.iastore, 1) := by decide +kernel
theorem dX8_counted_169 : decode cX8_counted 169 = .ok (.dup, 1) := by decide +kernel
theorem dX8_counted_170 : decode cX8_counted 170 = .ok (.bipush 7, 2) := by decide +kernel
theorem dX8_counted_172 : decode cX8_counted 172 = .ok (.aload_n 0, 1) := by decide +kernel
theorem dX8_counted_173 : decode cX8_counted 173 = .ok (.getfield 21, 3) := by decide +kernel
theorem dX8_counted_176 : decode cX8_counted 176 = .ok (.iconst 3, 1) := by decide +kernel
theorem dX8_counted_177 : decode cX8_counted 177 = .ok (.invokevirtual 132, 3) := by decide +kernel
theorem dX8_counted_180 : decode cX8_counted 180 = .ok (.iastore, 1) := by decide +kernel
theorem dX8_counted_181 : decode cX8_counted 181 = .ok (.dup, 1) := by decide +kernel
theorem dX8_counted_182 : decode cX8_counted 182 = .ok (.bipush 8, 2) := by decide +kernel
theorem dX8_counted_184 : decode cX8_counted 184 = .ok (.iload_n 2, 1) := by decide +kernel
theorem dX8_counted_185 : decode cX8_counted 185 = .ok (.iastore, 1) := by decide +kernel
theorem dX8_counted_186 : decode cX8_counted 186 = .ok (.dup, 1) := by decide +kernel
theorem dX8_counted_187 : decode cX8_counted 187 = .ok (.bipush 9, 2) := by decide +kernel
theorem dX8_counted_189 : decode cX8_counted 189 = .ok (.iload_n 3, 1) := by decide +kernel
theorem dX8_counted_190 : decode cX8_counted 190 = .ok (.iastore, 1) := by decide +kernel
theorem dX8_counted_191 : decode cX8_counted 191 = .ok (.dup, 1) := by decide +kernel
theorem dX8_counted_192 : decode cX8_counted 192 = .ok (.bipush 10, 2) := by decide +kernel
theorem dX8_counted_194 : decode cX8_counted 194 = .ok (.aload_n 0, 1) := by decide +kernel
theorem dX8_counted_195 : decode cX8_counted 195 = .ok (.getfield 21, 3) := by decide +kernel
theorem dX8_counted_198 : decode cX8_counted 198 = .ok (.getfield 105, 3) := by decide +kernel
theorem dX8_counted_201 : decode cX8_counted 201 = .ok (.iastore, 1) := by decide +kernel
theorem dX8_counted_202 : decode cX8_counted 202 = .ok (.astore 4, 2) := by decide +kernel
theorem dX8_counted_204 : decode cX8_counted 204 = .ok (.aload 4, 2) := by decide +kernel
theorem dX8_counted_206 : decode cX8_counted 206 = .ok (.iload_n 1, 1) := by decide +kernel
theorem dX8_counted_207 : decode cX8_counted 207 = .ok (.iaload, 1) := by decide +kernel
theorem dX8_counted_208 : decode cX8_counted 208 = .ok (.ireturn, 1) := by decide +kernel
theorem dX8_count_0 : decode cX8_count 0 = .ok (.aload_n 0, 1) := by decide +kernel
theorem dX8_count_1 : decode cX8_count 1 = .ok (.iconst 0, 1) := by decide +kernel
theorem dX8_count_2 : decode cX8_count 2 = .ok (.putfield 28, 3) := by decide +kernel
theorem dX8_count_5 : decode cX8_count 5 = .ok (.iload_n 1, 1) := by decide +kernel
theorem dX8_count_6 : decode cX8_count 6 = .ok (.iconst 0, 1) := by decide +kernel
theorem dX8_count_7 : decode cX8_count 7 = .ok (.bipush 10, 2) := by decide +kernel
theorem dX8_count_9 : decode cX8_count 9 = .ok (.invokestatic 35, 3) := by decide +kernel
theorem dX8_count_12 : decode cX8_count 12 = .ok (.ifCond .eq 11, 3) := by decide +kernel
theorem dX8_count_15 : decode cX8_count 15 = .ok (.aload_n 0, 1) := by decide +kernel
theorem dX8_count_16 : decode cX8_count 16 = .ok (.iload_n 1, 1) := by decide +kernel
theorem dX8_count_17 : decode cX8_count 17 = .ok (.invokevirtual 135, 3) := by decide +kernel
theorem dX8_count_20 : decode cX8_count 20 = .ok (.goto 8, 3) := by decide +kernel
theorem dX8_count_23 : decode cX8_count 23 = .ok (.aload_n 0, 1) := by decide +kernel
theorem dX8_count_24 : decode cX8_count 24 = .ok (.iconst 1, 1) := by decide +kernel
theorem dX8_count_25 : decode cX8_count 25 = .ok (.invokevirtual 42, 3) := by decide +kernel
theorem dX8_count_28 : decode cX8_count 28 = .ok (.ireturn, 1) := by decide +kernel
theorem dX8_foresee_0 : decode cX8_foresee 0 = .ok (.aload_n 0, 1) := by decide +kernel
theorem dX8_foresee_1 : decode cX8_foresee 1 = .ok (.iconst 0, 1) := by decide +kernel
theorem dX8_foresee_2 : decode cX8_foresee 2 = .ok (.putfield 28, 3) := by decide +kernel
theorem dX8_foresee_5 : decode cX8_foresee 5 = .ok (.iload_n 1, 1) := by decide +kernel
theorem dX8_foresee_6 : decode cX8_foresee 6 = .ok (.iconst 1, 1) := by decide +kernel
theorem dX8_foresee_7 : decode cX8_foresee 7 = .ok (.sipush 200, 3) := by decide +kernel
theorem dX8_foresee_10 : decode cX8_foresee 10 = .ok (.invokestatic 35, 3) := by decide +kernel
theorem dX8_foresee_13 : decode cX8_foresee 13 = .ok (.ifCond .ne 9, 3) := by decide +kernel
theorem dX8_foresee_16 : decode cX8_foresee 16 = .ok (.aload_n 0, 1) := by decide +kernel
theorem dX8_foresee_17 : decode cX8_foresee 17 = .ok (.iconst 1, 1) := by decide +kernel
theorem dX8_foresee_18 : decode cX8_foresee 18 = .ok (.invokevirtual 42, 3) := by decide +kernel
theorem dX8_foresee_21 : decode cX8_foresee 21 = .ok (.ireturn, 1) := by decide +kernel
theorem dX8_foresee_22 : decode cX8_foresee 22 = .ok (.iload_n 2, 1) := by decide +kernel
theorem dX8_foresee_23 : decode cX8_foresee 23 = .ok (.iconst 0, 1) := by decide +kernel
theorem dX8_foresee_24 : decode cX8_foresee 24 = .ok (.iconst 2, 1) := by decide +kernel
theorem dX8_foresee_25 : decode cX8_foresee 25 = .ok (.invokestatic 35, 3) := by decide +kernel
theorem dX8_foresee_28 : decode cX8_foresee 28 = .ok (.ifCond .ne 9, 3) := by decide +kernel
theorem dX8_foresee_31 : decode cX8_foresee 31 = .ok (.aload_n 0, 1) := by decide +kernel
theorem dX8_foresee_32 : decode cX8_foresee 32 = .ok (.iconst 2, 1) := by decide +kernel
theorem dX8_foresee_33 : decode cX8_foresee 33 = .ok (.invokevirtual 42, 3) := by decide +kernel
theorem dX8_foresee_36 : decode cX8_foresee 36 = .ok (.ireturn, 1) := by decide +kernel
theorem dX8_foresee_37 : decode cX8_foresee 37 = .ok (.aload_n 0, 1) := by decide +kernel
theorem dX8_foresee_38 : decode cX8_foresee 38 = .ok (.getfield 25, 3) := by decide +kernel
theorem dX8_foresee_41 : decode cX8_foresee 41 = .ok (.aload_n 0, 1) := by decide +kernel
theorem dX8_foresee_42 : decode cX8_foresee 42 = .ok (.getfield 21, 3) := by decide +kernel
theorem dX8_foresee_45 : decode cX8_foresee 45 = .ok (.invokevirtual 138, 3) := by decide +kernel
theorem dX8_foresee_48 : decode cX8_foresee 48 = .ok (.iconst 0, 1) := by decide +kernel
theorem dX8_foresee_49 : decode cX8_foresee 49 = .ok (.istore_n 3, 1) := by decide +kernel
theorem dX8_foresee_50 : decode cX8_foresee 50 = .ok (.iconst 0, 1) := by decide +kernel
theorem dX8_foresee_51 : decode cX8_foresee 51 = .ok (.istore 4, 2) := by decide +kernel
theorem dX8_foresee_53 : decode cX8_foresee 53 = .ok (.iload 4, 2) := by decide +kernel
theorem dX8_foresee_55 : decode cX8_foresee 55 = .ok (.iload_n 1, 1) := by decide +kernel
theorem dX8_foresee_56 : decode cX8_foresee 56 = .ok (.if_icmp .ge 19, 3) := by decide +kernel
theorem dX8_foresee_59 : decode cX8_foresee 59 = .ok (.iload_n 3, 1) := by decide +kernel
theorem dX8_foresee_60 : decode cX8_foresee 60 = .ok (.aload_n 0, 1) := by decide +kernel
theorem dX8_foresee_61 : decode cX8_foresee 61 = .ok (.getfield 25, 3) := by decide +kernel
theorem dX8_foresee_64 : decode cX8_foresee 64 = .ok (.invokevirtual 128, 3) := by decide +kernel
theorem dX8_foresee_67 : decode cX8_foresee 67 = .ok (.iadd, 1) := by decide +kernel
theorem dX8_foresee_68 : decode cX8_foresee 68 = .ok (.istore_n 3, 1) := by decide +kernel
theorem dX8_foresee_69 : decode cX8_foresee 69 = .ok (.iinc 4 1, 3) := by decide +kernel
theorem dX8_foresee_72 : decode cX8_foresee 72 = .ok (.goto (-19), 3) := by decide +kernel
theorem dX8_foresee_75 : decode cX8_foresee 75 = .ok (.iload_n 2, 1) := by decide +kernel
theorem dX8_foresee_76 : decode cX8_foresee 76 = .ok (.ifCond .ne 13, 3) := by decide +kernel
theorem dX8_foresee_79 : decode cX8_foresee 79 = .ok (.aload_n 0, 1) := by decide +kernel
theorem dX8_foresee_80 : decode cX8_foresee 80 = .ok (.getfield 25, 3) := by decide +kernel
theorem dX8_foresee_83 : decode cX8_foresee 83 = .ok (.getfield 74, 3) := by decide +kernel
theorem dX8_foresee_86 : decode cX8_foresee 86 = .ok (.goto 20, 3) := by decide +kernel
theorem dX8_foresee_89 : decode cX8_foresee 89 = .ok (.iload_n 2, 1) := by decide +kernel
theorem dX8_foresee_90 : decode cX8_foresee 90 = .ok (.iconst 1, 1) := by decide +kernel
theorem dX8_foresee_91 : decode cX8_foresee 91 = .ok (.if_icmp .ne 7, 3) := by decide +kernel
theorem dX8_foresee_94 : decode cX8_foresee 94 = .ok (.iload_n 3, 1) := by decide +kernel
theorem dX8_foresee_95 : decode cX8_foresee 95 = .ok (.goto 11, 3) := by decide +kernel
theorem dX8_foresee_98 : decode cX8_foresee 98 = .ok (.aload_n 0, 1) := by decide +kernel
theorem dX8_foresee_99 : decode cX8_foresee 99 = .ok (.getfield 25, 3) := by decide +kernel
theorem dX8_foresee_102 : decode cX8_foresee 102 = .ok (.iconst 2, 1) := by decide +kernel
theorem dX8_foresee_103 : decode cX8_foresee 103 = .ok (.invokevirtual 132, 3) := by decide +kernel
theorem dX8_foresee_106 : decode cX8_foresee 106 = .ok (.ireturn, 1) := by decide +kernel
theorem dX8_raise_0 : decode cX8_raise 0 = .ok (.aload_n 0, 1) := by decide +kernel
theorem dX8_raise_1 : decode cX8_raise 1 = .ok (.iconst 0, 1) := by decide +kernel
theorem dX8_raise_2 : decode cX8_raise 2 = .ok (.putfield 28, 3) := by decide +kernel
theorem dX8_raise_5 : decode cX8_raise 5 = .ok (.iload_n 1, 1) := by decide +kernel
theorem dX8_raise_6 : decode cX8_raise 6 = .ok (.iconst 1, 1) := by decide +kernel
theorem dX8_raise_7 : decode cX8_raise 7 = .ok (.if_icmp .ge 9, 3) := by decide +kernel
theorem dX8_raise_10 : decode cX8_raise 10 = .ok (.aload_n 0, 1) := by decide +kernel
theorem dX8_raise_11 : decode cX8_raise 11 = .ok (.iconst 1, 1) := by decide +kernel
theorem dX8_raise_12 : decode cX8_raise 12 = .ok (.invokevirtual 42, 3) := by decide +kernel
theorem dX8_raise_15 : decode cX8_raise 15 = .ok (.ireturn, 1) := by decide +kernel
theorem dX8_raise_16 : decode cX8_raise 16 = .ok (.sipush 501, 3) := by decide +kernel
theorem dX8_raise_19 : decode cX8_raise 19 = .ok (.newarray .int, 2) := by decide +kernel
theorem dX8_raise_21 : decode cX8_raise 21 = .ok (.astore_n 2, 1) := by decide +kernel
theorem dX8_raise_22 : decode cX8_raise 22 = .ok (.iconst 0, 1) := by decide +kernel
theorem dX8_raise_23 : decode cX8_raise 23 = .ok (.istore_n 3, 1) := by decide +kernel
theorem dX8_raise_24 : decode cX8_raise 24 = .ok (.iload_n 3, 1) := by decide +kernel
theorem dX8_raise_25 : decode cX8_raise 25 = .ok (.aload_n 0, 1) := by decide +kernel
theorem dX8_raise_26 : decode cX8_raise 26 = .ok (.getfield 21, 3) := by decide +kernel
theorem dX8_raise_29 : decode cX8_raise 29 = .ok (.getfield 39, 3) := by decide +kernel
theorem dX8_raise_32 : decode cX8_raise 32 = .ok (.if_icmp .ge 39, 3) := by decide +kernel
theorem dX8_raise_35 : decode cX8_raise 35 = .ok (.aload_n 0, 1) := by decide +kernel
theorem dX8_raise_36 : decode cX8_raise 36 = .ok (.getfield 21, 3) := by decide +kernel
theorem dX8_raise_39 : decode cX8_raise 39 = .ok (.iload_n 3, 1) := by decide +kernel
theorem dX8_raise_40 : decode cX8_raise 40 = .ok (.bipush 6, 2) := by decide +kernel
theorem dX8_raise_42 : decode cX8_raise 42 = .ok (.invokevirtual 56, 3) := by decide +kernel
theorem dX8_raise_45 : decode cX8_raise 45 = .ok (.iconst 2, 1) := by decide +kernel
theorem dX8_raise_46 : decode cX8_raise 46 = .ok (.if_icmp .ne 19, 3) := by decide +kernel
theorem dX8_raise_49 : decode cX8_raise 49 = .ok (.aload_n 2, 1) := by decide +kernel
theorem dX8_raise_50 : decode cX8_raise 50 = .ok (.aload_n 0, 1) := by decide +kernel
theorem dX8_raise_51 : decode cX8_raise 51 = .ok (.getfield 21, 3) := by decide +kernel
theorem dX8_raise_54 : decode cX8_raise 54 = .ok (.iload_n 3, 1) := by decide +kernel
theorem dX8_raise_55 : decode cX8_raise 55 = .ok (.bipush 8, 2) := by decide +kernel
theorem dX8_raise_57 : decode cX8_raise 57 = .ok (.invokevirtual 56, 3) := by decide +kernel
theorem dX8_raise_60 : decode cX8_raise 60 = .ok (.dup2, 1) := by decide +kernel
theorem dX8_raise_61 : decode cX8_raise 61 = .ok (.iaload, 1) := by decide +kernel
theorem dX8_raise_62 : decode cX8_raise 62 = .ok (.iconst 1, 1) := by decide +kernel
theorem dX8_raise_63 : decode cX8_raise 63 = .ok (.iadd, 1) := by decide +kernel
theorem dX8_raise_64 : decode cX8_raise 64 = .ok (.iastore, 1) := by decide +kernel
theorem dX8_raise_65 : decode cX8_raise 65 = .ok (.iinc 3 1, 3) := by decide +kernel
theorem dX8_raise_68 : decode cX8_raise 68 = .ok (.goto (-44), 3) := by decide +kernel
theorem dX8_raise_71 : decode cX8_raise 71 = .ok (.iconst 0, 1) := by decide +kernel
theorem dX8_raise_72 : decode cX8_raise 72 = .ok (.istore_n 3, 1) := by decide +kernel
theorem dX8_raise_73 : decode cX8_raise 73 = .ok (.iconst 0, 1) := by decide +kernel
theorem dX8_raise_74 : decode cX8_raise 74 = .ok (.istore 4, 2) := by decide +kernel
theorem dX8_raise_76 : decode cX8_raise 76 = .ok (.sipush 500, 3) := by decide +kernel
theorem dX8_raise_79 : decode cX8_raise 79 = .ok (.istore 5, 2) := by decide +kernel
theorem dX8_raise_81 : decode cX8_raise 81 = .ok (.iload 5, 2) := by decide +kernel
theorem dX8_raise_83 : decode cX8_raise 83 = .ok (.ifCond .le 45, 3) := by decide +kernel
theorem dX8_raise_86 : decode cX8_raise 86 = .ok (.iconst 0, 1) := by decide +kernel
theorem dX8_raise_87 : decode cX8_raise 87 = .ok (.istore 6, 2) := by decide +kernel
theorem dX8_raise_89 : decode cX8_raise 89 = .ok (.iload 6, 2) := by decide +kernel
theorem dX8_raise_91 : decode cX8_raise 91 = .ok (.aload_n 2, 1) := by decide +kernel
theorem dX8_raise_92 : decode cX8_raise 92 = .ok (.iload 5, 2) := by decide +kernel
theorem dX8_raise_94 : decode cX8_raise 94 = .ok (.iaload, 1) := by decide +kernel
theorem dX8_raise_95 : decode cX8_raise 95 = .ok (.if_icmp .ge 27, 3) := by decide +kernel
theorem dX8_raise_98 : decode cX8_raise 98 = .ok (.iload 4, 2) := by decide +kernel
theorem dX8_raise_100 : decode cX8_raise 100 = .ok (.iload 5, 2) := by decide +kernel
theorem dX8_raise_102 : decode cX8_raise 102 = .ok (.iadd, 1) := by decide +kernel
theorem dX8_raise_103 : decode cX8_raise 103 = .ok (.istore 4, 2) := by decide +kernel
theorem dX8_raise_105 : decode cX8_raise 105 = .ok (.iinc 3 1, 3) := by decide +kernel
theorem dX8_raise_108 : decode cX8_raise 108 = .ok (.iload 4, 2) := by decide +kernel
theorem dX8_raise_110 : decode cX8_raise 110 = .ok (.iload_n 1, 1) := by decide +kernel
theorem dX8_raise_111 : decode cX8_raise 111 = .ok (.if_icmp .lt 5, 3) := by decide +kernel
theorem dX8_raise_114 : decode cX8_raise 114 = .ok (.iload_n 3, 1) := by decide +kernel
theorem dX8_raise_115 : decode cX8_raise 115 = .ok (.ireturn, 1) := by decide +kernel
theorem dX8_raise_116 : decode cX8_raise 116 = .ok (.iinc 6 1, 3) := by decide +kernel
theorem dX8_raise_119 : decode cX8_raise 119 = .ok (.goto (-30), 3) := by decide +kernel
theorem dX8_raise_122 : decode cX8_raise 122 = .ok (.iinc 5 (-1), 3) := by decide +kernel
theorem dX8_raise_125 : decode cX8_raise 125 = .ok (.goto (-44), 3) := by decide +kernel
theorem dX8_raise_128 : decode cX8_raise 128 = .ok (.iconst (-1), 1) := by decide +kernel
theorem dX8_raise_129 : decode cX8_raise 129 = .ok (.ireturn, 1) := by decide +kernel
theorem dX8_best_0 : decode cX8_best 0 = .ok (.aload_n 0, 1) := by decide +kernel
theorem dX8_best_1 : decode cX8_best 1 = .ok (.iconst 0, 1) := by decide +kernel
theorem dX8_best_2 : decode cX8_best 2 = .ok (.putfield 28, 3) := by decide +kernel
theorem dX8_best_5 : decode cX8_best 5 = .ok (.aload_n 0, 1) := by decide +kernel
theorem dX8_best_6 : decode cX8_best 6 = .ok (.iload_n 1, 1) := by decide +kernel
theorem dX8_best_7 : decode cX8_best 7 = .ok (.invokevirtual 52, 3) := by decide +kernel
theorem dX8_best_10 : decode cX8_best 10 = .ok (.ifCond .ne 9, 3) := by decide +kernel
theorem dX8_best_13 : decode cX8_best 13 = .ok (.aload_n 0, 1) := by decide +kernel
theorem dX8_best_14 : decode cX8_best 14 = .ok (.iconst 1, 1) := by decide +kernel
theorem dX8_best_15 : decode cX8_best 15 = .ok (.invokevirtual 42, 3) := by decide +kernel
theorem dX8_best_18 : decode cX8_best 18 = .ok (.ireturn, 1) := by decide +kernel
theorem dX8_best_19 : decode cX8_best 19 = .ok (.iconst (-1), 1) := by decide +kernel
theorem dX8_best_20 : decode cX8_best 20 = .ok (.istore_n 2, 1) := by decide +kernel
theorem dX8_best_21 : decode cX8_best 21 = .ok (.iconst 0, 1) := by decide +kernel
theorem dX8_best_22 : decode cX8_best 22 = .ok (.istore_n 3, 1) := by decide +kernel
theorem dX8_best_23 : decode cX8_best 23 = .ok (.iconst 0, 1) := by decide +kernel
theorem dX8_best_24 : decode cX8_best 24 = .ok (.istore 4, 2) := by decide +kernel
theorem dX8_best_26 : decode cX8_best 26 = .ok (.iload 4, 2) := by decide +kernel
theorem dX8_best_28 : decode cX8_best 28 = .ok (.aload_n 0, 1) := by decide +kernel
theorem dX8_best_29 : decode cX8_best 29 = .ok (.getfield 21, 3) := by decide +kernel
theorem dX8_best_32 : decode cX8_best 32 = .ok (.getfield 39, 3) := by decide +kernel
theorem dX8_best_35 : decode cX8_best 35 = .ok (.if_icmp .ge 103, 3) := by decide +kernel
theorem dX8_best_38 : decode cX8_best 38 = .ok (.aload_n 0, 1) := by decide +kernel
theorem dX8_best_39 : decode cX8_best 39 = .ok (.getfield 21, 3) := by decide +kernel
theorem dX8_best_42 : decode cX8_best 42 = .ok (.iload 4, 2) := by decide +kernel
theorem dX8_best_44 : decode cX8_best 44 = .ok (.iconst 0, 1) := by decide +kernel
theorem dX8_best_45 : decode cX8_best 45 = .ok (.invokevirtual 56, 3) := by decide +kernel
theorem dX8_best_48 : decode cX8_best 48 = .ok (.iload_n 1, 1) := by decide +kernel
theorem dX8_best_49 : decode cX8_best 49 = .ok (.if_icmp .ne 83, 3) := by decide +kernel
theorem dX8_best_52 : decode cX8_best 52 = .ok (.aload_n 0, 1) := by decide +kernel
theorem dX8_best_53 : decode cX8_best 53 = .ok (.getfield 21, 3) := by decide +kernel
theorem dX8_best_56 : decode cX8_best 56 = .ok (.iload 4, 2) := by decide +kernel
theorem dX8_best_58 : decode cX8_best 58 = .ok (.bipush 6, 2) := by decide +kernel
theorem dX8_best_60 : decode cX8_best 60 = .ok (.invokevirtual 56, 3) := by decide +kernel
theorem dX8_best_63 : decode cX8_best 63 = .ok (.ifCond .ne 69, 3) := by decide +kernel
theorem dX8_best_66 : decode cX8_best 66 = .ok (.aload_n 0, 1) := by decide +kernel
theorem dX8_best_67 : decode cX8_best 67 = .ok (.getfield 21, 3) := by decide +kernel
theorem dX8_best_70 : decode cX8_best 70 = .ok (.iload 4, 2) := by decide +kernel
theorem dX8_best_72 : decode cX8_best 72 = .ok (.invokevirtual 60, 3) := by decide +kernel
theorem dX8_best_75 : decode cX8_best 75 = .ok (.aload_n 0, 1) := by decide +kernel
theorem dX8_best_76 : decode cX8_best 76 = .ok (.getfield 21, 3) := by decide +kernel
theorem dX8_best_79 : decode cX8_best 79 = .ok (.getfield 46, 3) := by decide +kernel
theorem dX8_best_82 : decode cX8_best 82 = .ok (.iload_n 1, 1) := by decide +kernel
theorem dX8_best_83 : decode cX8_best 83 = .ok (.iaload, 1) := by decide +kernel
theorem dX8_best_84 : decode cX8_best 84 = .ok (.if_icmp .le 6, 3) := by decide +kernel
theorem dX8_best_87 : decode cX8_best 87 = .ok (.goto 45, 3) := by decide +kernel
theorem dX8_best_90 : decode cX8_best 90 = .ok (.aload_n 0, 1) := by decide +kernel
theorem dX8_best_91 : decode cX8_best 91 = .ok (.getfield 21, 3) := by decide +kernel
theorem dX8_best_94 : decode cX8_best 94 = .ok (.iload 4, 2) := by decide +kernel
theorem dX8_best_96 : decode cX8_best 96 = .ok (.iconst 2, 1) := by decide +kernel
theorem dX8_best_97 : decode cX8_best 97 = .ok (.invokevirtual 56, 3) := by decide +kernel
theorem dX8_best_100 : decode cX8_best 100 = .ok (.aload_n 0, 1) := by decide +kernel
theorem dX8_best_101 : decode cX8_best 101 = .ok (.getfield 21, 3) := by decide +kernel
theorem dX8_best_104 : decode cX8_best 104 = .ok (.iload 4, 2) := by decide +kernel
theorem dX8_best_106 : decode cX8_best 106 = .ok (.invokevirtual 60, 3) := by decide +kernel
theorem dX8_best_109 : decode cX8_best 109 = .ok (.isub, 1) := by decide +kernel
theorem dX8_best_110 : decode cX8_best 110 = .ok (.istore 5, 2) := by decide +kernel
theorem dX8_best_112 : decode cX8_best 112 = .ok (.iload_n 2, 1) := by decide +kernel
theorem dX8_best_113 : decode cX8_best 113 = .ok (.iconst (-1), 1) := by decide +kernel
theorem dX8_best_114 : decode cX8_best 114 = .ok (.if_icmp .eq 12, 3) := by decide +kernel
theorem dX8_best_117 : decode cX8_best 117 = .ok (.iload 5, 2) := by decide +kernel
theorem dX8_best_119 : decode cX8_best 119 = .ok (.iload_n 3, 1) := by decide +kernel
theorem dX8_best_120 : decode cX8_best 120 = .ok (.if_icmp .gt 6, 3) := by decide +kernel
theorem dX8_best_123 : decode cX8_best 123 = .ok (.goto 9, 3) := by decide +kernel
theorem dX8_best_126 : decode cX8_best 126 = .ok (.iload 4, 2) := by decide +kernel
theorem dX8_best_128 : decode cX8_best 128 = .ok (.istore_n 2, 1) := by decide +kernel
theorem dX8_best_129 : decode cX8_best 129 = .ok (.iload 5, 2) := by decide +kernel
theorem dX8_best_131 : decode cX8_best 131 = .ok (.istore_n 3, 1) := by decide +kernel
theorem dX8_best_132 : decode cX8_best 132 = .ok (.iinc 4 1, 3) := by decide +kernel
theorem dX8_best_135 : decode cX8_best 135 = .ok (.goto (-109), 3) := by decide +kernel
theorem dX8_best_138 : decode cX8_best 138 = .ok (.iload_n 2, 1) := by decide +kernel
theorem dX8_best_139 : decode cX8_best 139 = .ok (.ireturn, 1) := by decide +kernel
theorem dX8_most_0 : decode cX8_most 0 = .ok (.aload_n 0, 1) := by decide +kernel
theorem dX8_most_1 : decode cX8_most 1 = .ok (.iconst 0, 1) := by decide +kernel
theorem dX8_most_2 : decode cX8_most 2 = .ok (.putfield 28, 3) := by decide +kernel
theorem dX8_most_5 : decode cX8_most 5 = .ok (.aload_n 0, 1) := by decide +kernel
theorem dX8_most_6 : decode cX8_most 6 = .ok (.iload_n 1, 1) := by decide +kernel
theorem dX8_most_7 : decode cX8_most 7 = .ok (.invokevirtual 52, 3) := by decide +kernel
theorem dX8_most_10 : decode cX8_most 10 = .ok (.ifCond .ne 9, 3) := by decide +kernel
theorem dX8_most_13 : decode cX8_most 13 = .ok (.aload_n 0, 1) := by decide +kernel
theorem dX8_most_14 : decode cX8_most 14 = .ok (.iconst 1, 1) := by decide +kernel
theorem dX8_most_15 : decode cX8_most 15 = .ok (.invokevirtual 42, 3) := by decide +kernel
theorem dX8_most_18 : decode cX8_most 18 = .ok (.ireturn, 1) := by decide +kernel
theorem dX8_most_19 : decode cX8_most 19 = .ok (.aload_n 0, 1) := by decide +kernel
theorem dX8_most_20 : decode cX8_most 20 = .ok (.getfield 21, 3) := by decide +kernel
theorem dX8_most_23 : decode cX8_most 23 = .ok (.getfield 46, 3) := by decide +kernel
theorem dX8_most_26 : decode cX8_most 26 = .ok (.iload_n 1, 1) := by decide +kernel
theorem dX8_most_27 : decode cX8_most 27 = .ok (.iaload, 1) := by decide +kernel
theorem dX8_most_28 : decode cX8_most 28 = .ok (.istore_n 2, 1) := by decide +kernel
theorem dX8_most_29 : decode cX8_most 29 = .ok (.lconst 0, 1) := by decide +kernel
theorem dX8_most_30 : decode cX8_most 30 = .ok (.lstore_n 3, 1) := by decide +kernel
theorem dX8_most_31 : decode cX8_most 31 = .ok (.iconst 0, 1) := by decide +kernel
theorem dX8_most_32 : decode cX8_most 32 = .ok (.istore 5, 2) := by decide +kernel
theorem dX8_most_34 : decode cX8_most 34 = .ok (.iconst (-1), 1) := by decide +kernel
theorem dX8_most_35 : decode cX8_most 35 = .ok (.istore 6, 2) := by decide +kernel
theorem dX8_most_37 : decode cX8_most 37 = .ok (.iconst 0, 1) := by decide +kernel
theorem dX8_most_38 : decode cX8_most 38 = .ok (.istore 7, 2) := by decide +kernel
theorem dX8_most_40 : decode cX8_most 40 = .ok (.iload 7, 2) := by decide +kernel
theorem dX8_most_42 : decode cX8_most 42 = .ok (.aload_n 0, 1) := by decide +kernel
theorem dX8_most_43 : decode cX8_most 43 = .ok (.getfield 21, 3) := by decide +kernel
theorem dX8_most_46 : decode cX8_most 46 = .ok (.getfield 39, 3) := by decide +kernel
theorem dX8_most_49 : decode cX8_most 49 = .ok (.if_icmp .ge 82, 3) := by decide +kernel
theorem dX8_most_52 : decode cX8_most 52 = .ok (.lload_n 3, 1) := by decide +kernel
theorem dX8_most_53 : decode cX8_most 53 = .ok (.iload 7, 2) := by decide +kernel
theorem dX8_most_55 : decode cX8_most 55 = .ok (.lshr, 1) := by decide +kernel
theorem dX8_most_56 : decode cX8_most 56 = .ok (.lconst 1, 1) := by decide +kernel
theorem dX8_most_57 : decode cX8_most 57 = .ok (.land, 1) := by decide +kernel
theorem dX8_most_58 : decode cX8_most 58 = .ok (.lconst 1, 1) := by decide +kernel
theorem dX8_most_59 : decode cX8_most 59 = .ok (.lcmp, 1) := by decide +kernel
theorem dX8_most_60 : decode cX8_most 60 = .ok (.ifCond .eq 65, 3) := by decide +kernel
theorem dX8_most_63 : decode cX8_most 63 = .ok (.aload_n 0, 1) := by decide +kernel
theorem dX8_most_64 : decode cX8_most 64 = .ok (.getfield 21, 3) := by decide +kernel
theorem dX8_most_67 : decode cX8_most 67 = .ok (.iload 7, 2) := by decide +kernel
theorem dX8_most_69 : decode cX8_most 69 = .ok (.iconst 0, 1) := by decide +kernel
theorem dX8_most_70 : decode cX8_most 70 = .ok (.invokevirtual 56, 3) := by decide +kernel
theorem dX8_most_73 : decode cX8_most 73 = .ok (.iload_n 1, 1) := by decide +kernel
theorem dX8_most_74 : decode cX8_most 74 = .ok (.if_icmp .ne 51, 3) := by decide +kernel
theorem dX8_most_77 : decode cX8_most 77 = .ok (.aload_n 0, 1) := by decide +kernel
theorem dX8_most_78 : decode cX8_most 78 = .ok (.getfield 21, 3) := by decide +kernel
theorem dX8_most_81 : decode cX8_most 81 = .ok (.iload 7, 2) := by decide +kernel
theorem dX8_most_83 : decode cX8_most 83 = .ok (.bipush 6, 2) := by decide +kernel
theorem dX8_most_85 : decode cX8_most 85 = .ok (.invokevirtual 56, 3) := by decide +kernel
theorem dX8_most_88 : decode cX8_most 88 = .ok (.ifCond .eq 6, 3) := by decide +kernel
theorem dX8_most_91 : decode cX8_most 91 = .ok (.goto 34, 3) := by decide +kernel
theorem dX8_most_94 : decode cX8_most 94 = .ok (.iload 6, 2) := by decide +kernel
theorem dX8_most_96 : decode cX8_most 96 = .ok (.iconst (-1), 1) := by decide +kernel
theorem dX8_most_97 : decode cX8_most 97 = .ok (.if_icmp .eq 24, 3) := by decide +kernel
theorem dX8_most_100 : decode cX8_most 100 = .ok (.aload_n 0, 1) := by decide +kernel
theorem dX8_most_101 : decode cX8_most 101 = .ok (.getfield 21, 3) := by decide +kernel
theorem dX8_most_104 : decode cX8_most 104 = .ok (.iload 7, 2) := by decide +kernel
theorem dX8_most_106 : decode cX8_most 106 = .ok (.invokevirtual 60, 3) := by decide +kernel
theorem dX8_most_109 : decode cX8_most 109 = .ok (.aload_n 0, 1) := by decide +kernel
theorem dX8_most_110 : decode cX8_most 110 = .ok (.getfield 21, 3) := by decide +kernel
theorem dX8_most_113 : decode cX8_most 113 = .ok (.iload 6, 2) := by decide +kernel
theorem dX8_most_115 : decode cX8_most 115 = .ok (.invokevirtual 60, 3) := by decide +kernel
theorem dX8_most_118 : decode cX8_most 118 = .ok (.if_icmp .ge 7, 3) := by decide +kernel
theorem dX8_most_121 : decode cX8_most 121 = .ok (.iload 7, 2) := by decide +kernel
theorem dX8_most_123 : decode cX8_most 123 = .ok (.istore 6, 2) := by decide +kernel
theorem dX8_most_125 : decode cX8_most 125 = .ok (.iinc 7 1, 3) := by decide +kernel
theorem dX8_most_128 : decode cX8_most 128 = .ok (.goto (-88), 3) := by decide +kernel
theorem dX8_most_131 : decode cX8_most 131 = .ok (.iload 6, 2) := by decide +kernel
theorem dX8_most_133 : decode cX8_most 133 = .ok (.iconst (-1), 1) := by decide +kernel
theorem dX8_most_134 : decode cX8_most 134 = .ok (.if_icmp .eq 16, 3) := by decide +kernel
theorem dX8_most_137 : decode cX8_most 137 = .ok (.aload_n 0, 1) := by decide +kernel
theorem dX8_most_138 : decode cX8_most 138 = .ok (.getfield 21, 3) := by decide +kernel
theorem dX8_most_141 : decode cX8_most 141 = .ok (.iload 6, 2) := by decide +kernel
theorem dX8_most_143 : decode cX8_most 143 = .ok (.invokevirtual 60, 3) := by decide +kernel
theorem dX8_most_146 : decode cX8_most 146 = .ok (.iload_n 2, 1) := by decide +kernel
theorem dX8_most_147 : decode cX8_most 147 = .ok (.if_icmp .le 6, 3) := by decide +kernel
theorem dX8_most_150 : decode cX8_most 150 = .ok (.iload 5, 2) := by decide +kernel
theorem dX8_most_152 : decode cX8_most 152 = .ok (.ireturn, 1) := by decide +kernel
theorem dX8_most_153 : decode cX8_most 153 = .ok (.iload_n 2, 1) := by decide +kernel
theorem dX8_most_154 : decode cX8_most 154 = .ok (.aload_n 0, 1) := by decide +kernel
theorem dX8_most_155 : decode cX8_most 155 = .ok (.getfield 21, 3) := by decide +kernel
theorem dX8_most_158 : decode cX8_most 158 = .ok (.iload 6, 2) := by decide +kernel
theorem dX8_most_160 : decode cX8_most 160 = .ok (.invokevirtual 60, 3) := by decide +kernel
theorem dX8_most_163 : decode cX8_most 163 = .ok (.isub, 1) := by decide +kernel
theorem dX8_most_164 : decode cX8_most 164 = .ok (.istore_n 2, 1) := by decide +kernel
theorem dX8_most_165 : decode cX8_most 165 = .ok (.lload_n 3, 1) := by decide +kernel
theorem dX8_most_166 : decode cX8_most 166 = .ok (.lconst 1, 1) := by decide +kernel
theorem dX8_most_167 : decode cX8_most 167 = .ok (.iload 6, 2) := by decide +kernel
theorem dX8_most_169 : decode cX8_most 169 = .ok (.lshl, 1) := by decide +kernel
theorem dX8_most_170 : decode cX8_most 170 = .ok (.lor, 1) := by decide +kernel
theorem dX8_most_171 : decode cX8_most 171 = .ok (.lstore_n 3, 1) := by decide +kernel
theorem dX8_most_172 : decode cX8_most 172 = .ok (.iinc 5 1, 3) := by decide +kernel
theorem dX8_most_175 : decode cX8_most 175 = .ok (.goto (-141), 3) := by decide +kernel
theorem dX8_fetched_0 : decode cX8_fetched 0 = .ok (.aload_n 0, 1) := by decide +kernel
theorem dX8_fetched_1 : decode cX8_fetched 1 = .ok (.iconst 0, 1) := by decide +kernel
theorem dX8_fetched_2 : decode cX8_fetched 2 = .ok (.putfield 28, 3) := by decide +kernel
theorem dX8_fetched_5 : decode cX8_fetched 5 = .ok (.aload_n 0, 1) := by decide +kernel
theorem dX8_fetched_6 : decode cX8_fetched 6 = .ok (.getfield 21, 3) := by decide +kernel
theorem dX8_fetched_9 : decode cX8_fetched 9 = .ok (.getfield 39, 3) := by decide +kernel
theorem dX8_fetched_12 : decode cX8_fetched 12 = .ok (.aload_n 0, 1) := by decide +kernel
theorem dX8_fetched_13 : decode cX8_fetched 13 = .ok (.getfield 21, 3) := by decide +kernel
theorem dX8_fetched_16 : decode cX8_fetched 16 = .ok (.iconst 0, 1) := by decide +kernel
theorem dX8_fetched_17 : decode cX8_fetched 17 = .ok (.invokevirtual 132, 3) := by decide +kernel
theorem dX8_fetched_20 : decode cX8_fetched 20 = .ok (.isub, 1) := by decide +kernel
theorem dX8_fetched_21 : decode cX8_fetched 21 = .ok (.istore_n 1, 1) := by decide +kernel
theorem dX8_fetched_22 : decode cX8_fetched 22 = .ok (.iload_n 1, 1) := by decide +kernel
theorem dX8_fetched_23 : decode cX8_fetched 23 = .ok (.ifCond .ne 7, 3) := by decide +kernel
theorem dX8_fetched_26 : decode cX8_fetched 26 = .ok (.dconst 0, 1) := by decide +kernel
theorem dX8_fetched_27 : decode cX8_fetched 27 = .ok (.goto 15, 3) := by decide +kernel
theorem dX8_fetched_30 : decode cX8_fetched 30 = .ok (.aload_n 0, 1) := by decide +kernel
theorem dX8_fetched_31 : decode cX8_fetched 31 = .ok (.getfield 21, 3) := by decide +kernel
theorem dX8_fetched_34 : decode cX8_fetched 34 = .ok (.iconst 1, 1) := by decide +kernel
theorem dX8_fetched_35 : decode cX8_fetched 35 = .ok (.invokevirtual 132, 3) := by decide +kernel
theorem dX8_fetched_38 : decode cX8_fetched 38 = .ok (.i2d, 1) := by decide +kernel
theorem dX8_fetched_39 : decode cX8_fetched 39 = .ok (.iload_n 1, 1) := by decide +kernel
theorem dX8_fetched_40 : decode cX8_fetched 40 = .ok (.i2d, 1) := by decide +kernel
theorem dX8_fetched_41 : decode cX8_fetched 41 = .ok (.ddiv, 1) := by decide +kernel
theorem dX8_fetched_42 : decode cX8_fetched 42 = .ok (.dreturn, 1) := by decide +kernel
theorem dX8_digest_0 : decode cX8_digest 0 = .ok (.aload_n 0, 1) := by decide +kernel
theorem dX8_digest_1 : decode cX8_digest 1 = .ok (.iconst 0, 1) := by decide +kernel
theorem dX8_digest_2 : decode cX8_digest 2 = .ok (.putfield 28, 3) := by decide +kernel
theorem dX8_digest_5 : decode cX8_digest 5 = .ok (.ldc2_w 142, 3) := by decide +kernel
theorem dX8_digest_8 : decode cX8_digest 8 = .ok (.lstore_n 1, 1) := by decide +kernel
theorem dX8_digest_9 : decode cX8_digest 9 = .ok (.iconst 0, 1) := by decide +kernel
theorem dX8_digest_10 : decode cX8_digest 10 = .ok (.istore_n 3, 1) := by decide +kernel
theorem dX8_digest_11 : decode cX8_digest 11 = .ok (.iload_n 3, 1) := by decide +kernel
theorem dX8_digest_12 : decode cX8_digest 12 = .ok (.bipush 10, 2) := by decide +kernel
theorem dX8_digest_14 : decode cX8_digest 14 = .ok (.if_icmp .gt 22, 3) := by decide +kernel
theorem dX8_digest_17 : decode cX8_digest 17 = .ok (.lload_n 1, 1) := by decide +kernel
theorem dX8_digest_18 : decode cX8_digest 18 = .ok (.ldc2_w 144, 3) := by decide +kernel
theorem dX8_digest_21 : decode cX8_digest 21 = .ok (.lmul, 1) := by decide +kernel
theorem dX8_digest_22 : decode cX8_digest 22 = .ok (.aload_n 0, 1) := by decide +kernel
theorem dX8_digest_23 : decode cX8_digest 23 = .ok (.iload_n 3, 1) := by decide +kernel
theorem dX8_digest_24 : decode cX8_digest 24 = .ok (.invokevirtual 135, 3) := by decide +kernel
theorem dX8_digest_27 : decode cX8_digest 27 = .ok (.i2l, 1) := by decide +kernel
theorem dX8_digest_28 : decode cX8_digest 28 = .ok (.ladd, 1) := by decide +kernel
theorem dX8_digest_29 : decode cX8_digest 29 = .ok (.lstore_n 1, 1) := by decide +kernel
theorem dX8_digest_30 : decode cX8_digest 30 = .ok (.iinc 3 1, 3) := by decide +kernel
theorem dX8_digest_33 : decode cX8_digest 33 = .ok (.goto (-22), 3) := by decide +kernel
theorem dX8_digest_36 : decode cX8_digest 36 = .ok (.iconst 0, 1) := by decide +kernel
theorem dX8_digest_37 : decode cX8_digest 37 = .ok (.istore_n 3, 1) := by decide +kernel
theorem dX8_digest_38 : decode cX8_digest 38 = .ok (.iload_n 3, 1) := by decide +kernel
theorem dX8_digest_39 : decode cX8_digest 39 = .ok (.bipush 7, 2) := by decide +kernel
theorem dX8_digest_41 : decode cX8_digest 41 = .ok (.if_icmp .ge 35, 3) := by decide +kernel
theorem dX8_digest_44 : decode cX8_digest 44 = .ok (.lload_n 1, 1) := by decide +kernel
theorem dX8_digest_45 : decode cX8_digest 45 = .ok (.ldc2_w 144, 3) := by decide +kernel
theorem dX8_digest_48 : decode cX8_digest 48 = .ok (.lmul, 1) := by decide +kernel
theorem dX8_digest_49 : decode cX8_digest 49 = .ok (.aload_n 0, 1) := by decide +kernel
theorem dX8_digest_50 : decode cX8_digest 50 = .ok (.getfield 9, 3) := by decide +kernel
theorem dX8_digest_53 : decode cX8_digest 53 = .ok (.iload_n 3, 1) := by decide +kernel
theorem dX8_digest_54 : decode cX8_digest 54 = .ok (.iaload, 1) := by decide +kernel
theorem dX8_digest_55 : decode cX8_digest 55 = .ok (.i2l, 1) := by decide +kernel
theorem dX8_digest_56 : decode cX8_digest 56 = .ok (.ladd, 1) := by decide +kernel
theorem dX8_digest_57 : decode cX8_digest 57 = .ok (.ldc2_w 144, 3) := by decide +kernel
theorem dX8_digest_60 : decode cX8_digest 60 = .ok (.lmul, 1) := by decide +kernel
theorem dX8_digest_61 : decode cX8_digest 61 = .ok (.aload_n 0, 1) := by decide +kernel
theorem dX8_digest_62 : decode cX8_digest 62 = .ok (.getfield 13, 3) := by decide +kernel
theorem dX8_digest_65 : decode cX8_digest 65 = .ok (.iload_n 3, 1) := by decide +kernel
theorem dX8_digest_66 : decode cX8_digest 66 = .ok (.iaload, 1) := by decide +kernel
theorem dX8_digest_67 : decode cX8_digest 67 = .ok (.i2l, 1) := by decide +kernel
theorem dX8_digest_68 : decode cX8_digest 68 = .ok (.ladd, 1) := by decide +kernel
theorem dX8_digest_69 : decode cX8_digest 69 = .ok (.lstore_n 1, 1) := by decide +kernel
theorem dX8_digest_70 : decode cX8_digest 70 = .ok (.iinc 3 1, 3) := by decide +kernel
theorem dX8_digest_73 : decode cX8_digest 73 = .ok (.goto (-35), 3) := by decide +kernel
theorem dX8_digest_76 : decode cX8_digest 76 = .ok (.iconst 0, 1) := by decide +kernel
theorem dX8_digest_77 : decode cX8_digest 77 = .ok (.istore_n 3, 1) := by decide +kernel
theorem dX8_digest_78 : decode cX8_digest 78 = .ok (.iload_n 3, 1) := by decide +kernel
theorem dX8_digest_79 : decode cX8_digest 79 = .ok (.aload_n 0, 1) := by decide +kernel
theorem dX8_digest_80 : decode cX8_digest 80 = .ok (.getfield 32, 3) := by decide +kernel
theorem dX8_digest_83 : decode cX8_digest 83 = .ok (.if_icmp .ge 39, 3) := by decide +kernel
theorem dX8_digest_86 : decode cX8_digest 86 = .ok (.iconst 0, 1) := by decide +kernel
theorem dX8_digest_87 : decode cX8_digest 87 = .ok (.istore 4, 2) := by decide +kernel
theorem dX8_digest_89 : decode cX8_digest 89 = .ok (.iload 4, 2) := by decide +kernel
theorem dX8_digest_91 : decode cX8_digest 91 = .ok (.iconst 4, 1) := by decide +kernel
theorem dX8_digest_92 : decode cX8_digest 92 = .ok (.if_icmp .gt 24, 3) := by decide +kernel
theorem dX8_digest_95 : decode cX8_digest 95 = .ok (.lload_n 1, 1) := by decide +kernel
theorem dX8_digest_96 : decode cX8_digest 96 = .ok (.ldc2_w 144, 3) := by decide +kernel
theorem dX8_digest_99 : decode cX8_digest 99 = .ok (.lmul, 1) := by decide +kernel
theorem dX8_digest_100 : decode cX8_digest 100 = .ok (.aload_n 0, 1) := by decide +kernel
theorem dX8_digest_101 : decode cX8_digest 101 = .ok (.iload_n 3, 1) := by decide +kernel
theorem dX8_digest_102 : decode cX8_digest 102 = .ok (.iload 4, 2) := by decide +kernel
theorem dX8_digest_104 : decode cX8_digest 104 = .ok (.invokevirtual 63, 3) := by decide +kernel
theorem dX8_digest_107 : decode cX8_digest 107 = .ok (.i2l, 1) := by decide +kernel
theorem dX8_digest_108 : decode cX8_digest 108 = .ok (.ladd, 1) := by decide +kernel
theorem dX8_digest_109 : decode cX8_digest 109 = .ok (.lstore_n 1, 1) := by decide +kernel
theorem dX8_digest_110 : decode cX8_digest 110 = .ok (.iinc 4 1, 3) := by decide +kernel
theorem dX8_digest_113 : decode cX8_digest 113 = .ok (.goto (-24), 3) := by decide +kernel
theorem dX8_digest_116 : decode cX8_digest 116 = .ok (.iinc 3 1, 3) := by decide +kernel
theorem dX8_digest_119 : decode cX8_digest 119 = .ok (.goto (-41), 3) := by decide +kernel
theorem dX8_digest_122 : decode cX8_digest 122 = .ok (.iconst 0, 1) := by decide +kernel
theorem dX8_digest_123 : decode cX8_digest 123 = .ok (.istore_n 3, 1) := by decide +kernel
theorem dX8_digest_124 : decode cX8_digest 124 = .ok (.iload_n 3, 1) := by decide +kernel
theorem dX8_digest_125 : decode cX8_digest 125 = .ok (.aload_n 0, 1) := by decide +kernel
theorem dX8_digest_126 : decode cX8_digest 126 = .ok (.getfield 21, 3) := by decide +kernel
theorem dX8_digest_129 : decode cX8_digest 129 = .ok (.getfield 39, 3) := by decide +kernel
theorem dX8_digest_132 : decode cX8_digest 132 = .ok (.if_icmp .ge 56, 3) := by decide +kernel
theorem dX8_digest_135 : decode cX8_digest 135 = .ok (.iconst 0, 1) := by decide +kernel
theorem dX8_digest_136 : decode cX8_digest 136 = .ok (.istore 4, 2) := by decide +kernel
theorem dX8_digest_138 : decode cX8_digest 138 = .ok (.iload 4, 2) := by decide +kernel
theorem dX8_digest_140 : decode cX8_digest 140 = .ok (.bipush 10, 2) := by decide +kernel
theorem dX8_digest_142 : decode cX8_digest 142 = .ok (.if_icmp .gt 24, 3) := by decide +kernel
theorem dX8_digest_145 : decode cX8_digest 145 = .ok (.lload_n 1, 1) := by decide +kernel
theorem dX8_digest_146 : decode cX8_digest 146 = .ok (.ldc2_w 144, 3) := by decide +kernel
theorem dX8_digest_149 : decode cX8_digest 149 = .ok (.lmul, 1) := by decide +kernel
theorem dX8_digest_150 : decode cX8_digest 150 = .ok (.aload_n 0, 1) := by decide +kernel
theorem dX8_digest_151 : decode cX8_digest 151 = .ok (.iload_n 3, 1) := by decide +kernel
theorem dX8_digest_152 : decode cX8_digest 152 = .ok (.iload 4, 2) := by decide +kernel
theorem dX8_digest_154 : decode cX8_digest 154 = .ok (.invokevirtual 102, 3) := by decide +kernel
theorem dX8_digest_157 : decode cX8_digest 157 = .ok (.i2l, 1) := by decide +kernel
theorem dX8_digest_158 : decode cX8_digest 158 = .ok (.ladd, 1) := by decide +kernel
theorem dX8_digest_159 : decode cX8_digest 159 = .ok (.lstore_n 1, 1) := by decide +kernel
theorem dX8_digest_160 : decode cX8_digest 160 = .ok (.iinc 4 1, 3) := by decide +kernel
theorem dX8_digest_163 : decode cX8_digest 163 = .ok (.goto (-25), 3) := by decide +kernel
theorem dX8_digest_166 : decode cX8_digest 166 = .ok (.lload_n 1, 1) := by decide +kernel
theorem dX8_digest_167 : decode cX8_digest 167 = .ok (.ldc2_w 144, 3) := by decide +kernel
theorem dX8_digest_170 : decode cX8_digest 170 = .ok (.lmul, 1) := by decide +kernel
theorem dX8_digest_171 : decode cX8_digest 171 = .ok (.aload_n 0, 1) := by decide +kernel
theorem dX8_digest_172 : decode cX8_digest 172 = .ok (.getfield 21, 3) := by decide +kernel
theorem dX8_digest_175 : decode cX8_digest 175 = .ok (.iload_n 3, 1) := by decide +kernel
theorem dX8_digest_176 : decode cX8_digest 176 = .ok (.invokevirtual 60, 3) := by decide +kernel
theorem dX8_digest_179 : decode cX8_digest 179 = .ok (.i2l, 1) := by decide +kernel
theorem dX8_digest_180 : decode cX8_digest 180 = .ok (.ladd, 1) := by decide +kernel
theorem dX8_digest_181 : decode cX8_digest 181 = .ok (.lstore_n 1, 1) := by decide +kernel
theorem dX8_digest_182 : decode cX8_digest 182 = .ok (.iinc 3 1, 3) := by decide +kernel
theorem dX8_digest_185 : decode cX8_digest 185 = .ok (.goto (-61), 3) := by decide +kernel
theorem dX8_digest_188 : decode cX8_digest 188 = .ok (.lload_n 1, 1) := by decide +kernel
theorem dX8_digest_189 : decode cX8_digest 189 = .ok (.lreturn, 1) := by decide +kernel
