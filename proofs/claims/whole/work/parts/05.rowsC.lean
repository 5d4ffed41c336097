theorem dX6_init_0 : decode cX6_init 0 = .ok (.aload_n 0, 1) := by decide +kernel
theorem dX6_init_1 : decode cX6_init 1 = .ok (.invokespecial 1, 3) := by decide +kernel
theorem dX6_init_4 : decode cX6_init 4 = .ok (.aload_n 0, 1) := by decide +kernel
theorem dX6_init_5 : decode cX6_init 5 = .ok (.new 7, 3) := by decide +kernel
theorem dX6_init_8 : decode cX6_init 8 = .ok (.dup, 1) := by decide +kernel
theorem dX6_init_9 : decode cX6_init 9 = .ok (.invokespecial 9, 3) := by decide +kernel
theorem dX6_init_12 : decode cX6_init 12 = .ok (.putfield 10, 3) := by decide +kernel
theorem dX6_init_15 : decode cX6_init 15 = .ok (.aload_n 0, 1) := by decide +kernel
theorem dX6_init_16 : decode cX6_init 16 = .ok (.new 7, 3) := by decide +kernel
theorem dX6_init_19 : decode cX6_init 19 = .ok (.dup, 1) := by decide +kernel
theorem dX6_init_20 : decode cX6_init 20 = .ok (.invokespecial 9, 3) := by decide +kernel
theorem dX6_init_23 : decode cX6_init 23 = .ok (.putfield 16, 3) := by decide +kernel
theorem dX6_init_26 : decode cX6_init 26 = .ok (.aload_n 0, 1) := by decide +kernel
theorem dX6_init_27 : decode cX6_init 27 = .ok (.bipush 40, 2) := by decide +kernel
theorem dX6_init_29 : decode cX6_init 29 = .ok (.newarray .int, 2) := by decide +kernel
theorem dX6_init_31 : decode cX6_init 31 = .ok (.putfield 19, 3) := by decide +kernel
theorem dX6_init_34 : decode cX6_init 34 = .ok (.return_, 1) := by decide +kernel
theorem dX6_come_0 : decode cX6_come 0 = .ok (.iload_n 1, 1) := by decide +kernel
theorem dX6_come_1 : decode cX6_come 1 = .ok (.iconst 0, 1) := by decide +kernel
theorem dX6_come_2 : decode cX6_come 2 = .ok (.sipush 2000, 3) := by decide +kernel
theorem dX6_come_5 : decode cX6_come 5 = .ok (.invokestatic 23, 3) := by decide +kernel
theorem dX6_come_8 : decode cX6_come 8 = .ok (.invokestatic 27, 3) := by decide +kernel
theorem dX6_come_11 : decode cX6_come 11 = .ok (.aload_n 0, 1) := by decide +kernel
theorem dX6_come_12 : decode cX6_come 12 = .ok (.getfield 10, 3) := by decide +kernel
theorem dX6_come_15 : decode cX6_come 15 = .ok (.getfield 31, 3) := by decide +kernel
theorem dX6_come_18 : decode cX6_come 18 = .ok (.bipush 10, 2) := by decide +kernel
theorem dX6_come_20 : decode cX6_come 20 = .ok (.if_icmp .ge 7, 3) := by decide +kernel
theorem dX6_come_23 : decode cX6_come 23 = .ok (.iconst 1, 1) := by decide +kernel
theorem dX6_come_24 : decode cX6_come 24 = .ok (.goto 4, 3) := by decide +kernel
theorem dX6_come_27 : decode cX6_come 27 = .ok (.iconst 0, 1) := by decide +kernel
theorem dX6_come_28 : decode cX6_come 28 = .ok (.invokestatic 35, 3) := by decide +kernel
theorem dX6_come_31 : decode cX6_come 31 = .ok (.aload_n 0, 1) := by decide +kernel
theorem dX6_come_32 : decode cX6_come 32 = .ok (.getfield 10, 3) := by decide +kernel
theorem dX6_come_35 : decode cX6_come 35 = .ok (.iload_n 1, 1) := by decide +kernel
theorem dX6_come_36 : decode cX6_come 36 = .ok (.invokevirtual 38, 3) := by decide +kernel
theorem dX6_come_39 : decode cX6_come 39 = .ok (.ireturn, 1) := by decide +kernel
theorem dX6_earn_0 : decode cX6_earn 0 = .ok (.aload_n 0, 1) := by decide +kernel
theorem dX6_earn_1 : decode cX6_earn 1 = .ok (.getfield 10, 3) := by decide +kernel
theorem dX6_earn_4 : decode cX6_earn 4 = .ok (.iload_n 1, 1) := by decide +kernel
theorem dX6_earn_5 : decode cX6_earn 5 = .ok (.invokevirtual 42, 3) := by decide +kernel
theorem dX6_earn_8 : decode cX6_earn 8 = .ok (.invokestatic 46, 3) := by decide +kernel
theorem dX6_earn_11 : decode cX6_earn 11 = .ok (.iload_n 2, 1) := by decide +kernel
theorem dX6_earn_12 : decode cX6_earn 12 = .ok (.iconst 1, 1) := by decide +kernel
theorem dX6_earn_13 : decode cX6_earn 13 = .ok (.sipush 1000, 3) := by decide +kernel
theorem dX6_earn_16 : decode cX6_earn 16 = .ok (.invokestatic 23, 3) := by decide +kernel
theorem dX6_earn_19 : decode cX6_earn 19 = .ok (.invokestatic 27, 3) := by decide +kernel
theorem dX6_earn_22 : decode cX6_earn 22 = .ok (.aload_n 0, 1) := by decide +kernel
theorem dX6_earn_23 : decode cX6_earn 23 = .ok (.getfield 10, 3) := by decide +kernel
theorem dX6_earn_26 : decode cX6_earn 26 = .ok (.getfield 49, 3) := by decide +kernel
theorem dX6_earn_29 : decode cX6_earn 29 = .ok (.iload_n 1, 1) := by decide +kernel
theorem dX6_earn_30 : decode cX6_earn 30 = .ok (.aaload, 1) := by decide +kernel
theorem dX6_earn_31 : decode cX6_earn 31 = .ok (.astore_n 3, 1) := by decide +kernel
theorem dX6_earn_32 : decode cX6_earn 32 = .ok (.aload_n 3, 1) := by decide +kernel
theorem dX6_earn_33 : decode cX6_earn 33 = .ok (.dup, 1) := by decide +kernel
theorem dX6_earn_34 : decode cX6_earn 34 = .ok (.getfield 53, 3) := by decide +kernel
theorem dX6_earn_37 : decode cX6_earn 37 = .ok (.iload_n 2, 1) := by decide +kernel
theorem dX6_earn_38 : decode cX6_earn 38 = .ok (.iadd, 1) := by decide +kernel
theorem dX6_earn_39 : decode cX6_earn 39 = .ok (.putfield 53, 3) := by decide +kernel
theorem dX6_earn_42 : decode cX6_earn 42 = .ok (.aload_n 3, 1) := by decide +kernel
theorem dX6_earn_43 : decode cX6_earn 43 = .ok (.getfield 53, 3) := by decide +kernel
theorem dX6_earn_46 : decode cX6_earn 46 = .ok (.ireturn, 1) := by decide +kernel
theorem dX6_setBuyer_0 : decode cX6_setBuyer 0 = .ok (.iload_n 1, 1) := by decide +kernel
theorem dX6_setBuyer_1 : decode cX6_setBuyer 1 = .ok (.iconst 0, 1) := by decide +kernel
theorem dX6_setBuyer_2 : decode cX6_setBuyer 2 = .ok (.bipush 6, 2) := by decide +kernel
theorem dX6_setBuyer_4 : decode cX6_setBuyer 4 = .ok (.invokestatic 23, 3) := by decide +kernel
theorem dX6_setBuyer_7 : decode cX6_setBuyer 7 = .ok (.invokestatic 46, 3) := by decide +kernel
theorem dX6_setBuyer_10 : decode cX6_setBuyer 10 = .ok (.iload_n 2, 1) := by decide +kernel
theorem dX6_setBuyer_11 : decode cX6_setBuyer 11 = .ok (.iconst (-1), 1) := by decide +kernel
theorem dX6_setBuyer_12 : decode cX6_setBuyer 12 = .ok (.iconst 4, 1) := by decide +kernel
theorem dX6_setBuyer_13 : decode cX6_setBuyer 13 = .ok (.invokestatic 23, 3) := by decide +kernel
theorem dX6_setBuyer_16 : decode cX6_setBuyer 16 = .ok (.ifCond .eq 18, 3) := by decide +kernel
theorem dX6_setBuyer_19 : decode cX6_setBuyer 19 = .ok (.iload_n 3, 1) := by decide +kernel
theorem dX6_setBuyer_20 : decode cX6_setBuyer 20 = .ok (.iconst 0, 1) := by decide +kernel
theorem dX6_setBuyer_21 : decode cX6_setBuyer 21 = .ok (.sipush 500, 3) := by decide +kernel
theorem dX6_setBuyer_24 : decode cX6_setBuyer 24 = .ok (.invokestatic 23, 3) := by decide +kernel
theorem dX6_setBuyer_27 : decode cX6_setBuyer 27 = .ok (.ifCond .eq 7, 3) := by decide +kernel
theorem dX6_setBuyer_30 : decode cX6_setBuyer 30 = .ok (.iconst 1, 1) := by decide +kernel
theorem dX6_setBuyer_31 : decode cX6_setBuyer 31 = .ok (.goto 4, 3) := by decide +kernel
theorem dX6_setBuyer_34 : decode cX6_setBuyer 34 = .ok (.iconst 0, 1) := by decide +kernel
theorem dX6_setBuyer_35 : decode cX6_setBuyer 35 = .ok (.invokestatic 27, 3) := by decide +kernel
theorem dX6_setBuyer_38 : decode cX6_setBuyer 38 = .ok (.aload_n 0, 1) := by decide +kernel
theorem dX6_setBuyer_39 : decode cX6_setBuyer 39 = .ok (.getfield 10, 3) := by decide +kernel
theorem dX6_setBuyer_42 : decode cX6_setBuyer 42 = .ok (.getfield 58, 3) := by decide +kernel
theorem dX6_setBuyer_45 : decode cX6_setBuyer 45 = .ok (.iload_n 1, 1) := by decide +kernel
theorem dX6_setBuyer_46 : decode cX6_setBuyer 46 = .ok (.aaload, 1) := by decide +kernel
theorem dX6_setBuyer_47 : decode cX6_setBuyer 47 = .ok (.astore 4, 2) := by decide +kernel
theorem dX6_setBuyer_49 : decode cX6_setBuyer 49 = .ok (.aload 4, 2) := by decide +kernel
theorem dX6_setBuyer_51 : decode cX6_setBuyer 51 = .ok (.getfield 62, 3) := by decide +kernel
theorem dX6_setBuyer_54 : decode cX6_setBuyer 54 = .ok (.istore 5, 2) := by decide +kernel
theorem dX6_setBuyer_56 : decode cX6_setBuyer 56 = .ok (.aload 4, 2) := by decide +kernel
theorem dX6_setBuyer_58 : decode cX6_setBuyer 58 = .ok (.iload_n 2, 1) := by decide +kernel
theorem dX6_setBuyer_59 : decode cX6_setBuyer 59 = .ok (.iload_n 3, 1) := by decide +kernel
theorem dX6_setBuyer_60 : decode cX6_setBuyer 60 = .ok (.invokevirtual 67, 3) := by decide +kernel
theorem dX6_setBuyer_63 : decode cX6_setBuyer 63 = .ok (.iload 5, 2) := by decide +kernel
theorem dX6_setBuyer_65 : decode cX6_setBuyer 65 = .ok (.ireturn, 1) := by decide +kernel
theorem dX6_customer_0 : decode cX6_customer 0 = .ok (.aload_n 0, 1) := by decide +kernel
theorem dX6_customer_1 : decode cX6_customer 1 = .ok (.getfield 10, 3) := by decide +kernel
theorem dX6_customer_4 : decode cX6_customer 4 = .ok (.iload_n 1, 1) := by decide +kernel
theorem dX6_customer_5 : decode cX6_customer 5 = .ok (.invokevirtual 42, 3) := by decide +kernel
theorem dX6_customer_8 : decode cX6_customer 8 = .ok (.ifCond .eq 16, 3) := by decide +kernel
theorem dX6_customer_11 : decode cX6_customer 11 = .ok (.iload_n 2, 1) := by decide +kernel
theorem dX6_customer_12 : decode cX6_customer 12 = .ok (.iconst 0, 1) := by decide +kernel
theorem dX6_customer_13 : decode cX6_customer 13 = .ok (.iconst 4, 1) := by decide +kernel
theorem dX6_customer_14 : decode cX6_customer 14 = .ok (.invokestatic 23, 3) := by decide +kernel
theorem dX6_customer_17 : decode cX6_customer 17 = .ok (.ifCond .eq 7, 3) := by decide +kernel
theorem dX6_customer_20 : decode cX6_customer 20 = .ok (.iconst 1, 1) := by decide +kernel
theorem dX6_customer_21 : decode cX6_customer 21 = .ok (.goto 4, 3) := by decide +kernel
theorem dX6_customer_24 : decode cX6_customer 24 = .ok (.iconst 0, 1) := by decide +kernel
theorem dX6_customer_25 : decode cX6_customer 25 = .ok (.invokestatic 46, 3) := by decide +kernel
theorem dX6_customer_28 : decode cX6_customer 28 = .ok (.aload_n 0, 1) := by decide +kernel
theorem dX6_customer_29 : decode cX6_customer 29 = .ok (.getfield 10, 3) := by decide +kernel
theorem dX6_customer_32 : decode cX6_customer 32 = .ok (.iload_n 1, 1) := by decide +kernel
theorem dX6_customer_33 : decode cX6_customer 33 = .ok (.iload_n 2, 1) := by decide +kernel
theorem dX6_customer_34 : decode cX6_customer 34 = .ok (.invokevirtual 71, 3) := by decide +kernel
theorem dX6_customer_37 : decode cX6_customer 37 = .ok (.ireturn, 1) := by decide +kernel
theorem dX6_pledge_0 : decode cX6_pledge 0 = .ok (.aload_n 0, 1) := by decide +kernel
theorem dX6_pledge_1 : decode cX6_pledge 1 = .ok (.getfield 10, 3) := by decide +kernel
theorem dX6_pledge_4 : decode cX6_pledge 4 = .ok (.iload_n 1, 1) := by decide +kernel
theorem dX6_pledge_5 : decode cX6_pledge 5 = .ok (.invokevirtual 42, 3) := by decide +kernel
theorem dX6_pledge_8 : decode cX6_pledge 8 = .ok (.invokestatic 46, 3) := by decide +kernel
theorem dX6_pledge_11 : decode cX6_pledge 11 = .ok (.iload_n 2, 1) := by decide +kernel
theorem dX6_pledge_12 : decode cX6_pledge 12 = .ok (.iconst 0, 1) := by decide +kernel
theorem dX6_pledge_13 : decode cX6_pledge 13 = .ok (.iconst 4, 1) := by decide +kernel
theorem dX6_pledge_14 : decode cX6_pledge 14 = .ok (.invokestatic 23, 3) := by decide +kernel
theorem dX6_pledge_17 : decode cX6_pledge 17 = .ok (.ifCond .eq 29, 3) := by decide +kernel
theorem dX6_pledge_20 : decode cX6_pledge 20 = .ok (.iload_n 3, 1) := by decide +kernel
theorem dX6_pledge_21 : decode cX6_pledge 21 = .ok (.iconst 1, 1) := by decide +kernel
theorem dX6_pledge_22 : decode cX6_pledge 22 = .ok (.sipush 500, 3) := by decide +kernel
theorem dX6_pledge_25 : decode cX6_pledge 25 = .ok (.invokestatic 23, 3) := by decide +kernel
theorem dX6_pledge_28 : decode cX6_pledge 28 = .ok (.ifCond .eq 18, 3) := by decide +kernel
theorem dX6_pledge_31 : decode cX6_pledge 31 = .ok (.iload 4, 2) := by decide +kernel
theorem dX6_pledge_33 : decode cX6_pledge 33 = .ok (.iconst 1, 1) := by decide +kernel
theorem dX6_pledge_34 : decode cX6_pledge 34 = .ok (.bipush 10, 2) := by decide +kernel
theorem dX6_pledge_36 : decode cX6_pledge 36 = .ok (.invokestatic 23, 3) := by decide +kernel
theorem dX6_pledge_39 : decode cX6_pledge 39 = .ok (.ifCond .eq 7, 3) := by decide +kernel
theorem dX6_pledge_42 : decode cX6_pledge 42 = .ok (.iconst 1, 1) := by decide +kernel
theorem dX6_pledge_43 : decode cX6_pledge 43 = .ok (.goto 4, 3) := by decide +kernel
theorem dX6_pledge_46 : decode cX6_pledge 46 = .ok (.iconst 0, 1) := by decide +kernel
theorem dX6_pledge_47 : decode cX6_pledge 47 = .ok (.invokestatic 27, 3) := by decide +kernel
theorem dX6_pledge_50 : decode cX6_pledge 50 = .ok (.aload_n 0, 1) := by decide +kernel
theorem dX6_pledge_51 : decode cX6_pledge 51 = .ok (.getfield 10, 3) := by decide +kernel
theorem dX6_pledge_54 : decode cX6_pledge 54 = .ok (.getfield 75, 3) := by decide +kernel
theorem dX6_pledge_57 : decode cX6_pledge 57 = .ok (.bipush 40, 2) := by decide +kernel
theorem dX6_pledge_59 : decode cX6_pledge 59 = .ok (.if_icmp .ge 7, 3) := by decide +kernel
theorem dX6_pledge_62 : decode cX6_pledge 62 = .ok (.iconst 1, 1) := by decide +kernel
theorem dX6_pledge_63 : decode cX6_pledge 63 = .ok (.goto 4, 3) := by decide +kernel
theorem dX6_pledge_66 : decode cX6_pledge 66 = .ok (.iconst 0, 1) := by decide +kernel
theorem dX6_pledge_67 : decode cX6_pledge 67 = .ok (.invokestatic 35, 3) := by decide +kernel
theorem dX6_pledge_70 : decode cX6_pledge 70 = .ok (.aload_n 0, 1) := by decide +kernel
theorem dX6_pledge_71 : decode cX6_pledge 71 = .ok (.getfield 10, 3) := by decide +kernel
theorem dX6_pledge_74 : decode cX6_pledge 74 = .ok (.getfield 78, 3) := by decide +kernel
theorem dX6_pledge_77 : decode cX6_pledge 77 = .ok (.aload_n 0, 1) := by decide +kernel
theorem dX6_pledge_78 : decode cX6_pledge 78 = .ok (.getfield 10, 3) := by decide +kernel
theorem dX6_pledge_81 : decode cX6_pledge 81 = .ok (.getfield 49, 3) := by decide +kernel
theorem dX6_pledge_84 : decode cX6_pledge 84 = .ok (.iload_n 1, 1) := by decide +kernel
theorem dX6_pledge_85 : decode cX6_pledge 85 = .ok (.aaload, 1) := by decide +kernel
theorem dX6_pledge_86 : decode cX6_pledge 86 = .ok (.iload_n 3, 1) := by decide +kernel
theorem dX6_pledge_87 : decode cX6_pledge 87 = .ok (.invokevirtual 79, 3) := by decide +kernel
theorem dX6_pledge_90 : decode cX6_pledge 90 = .ok (.if_icmp .lt 7, 3) := by decide +kernel
theorem dX6_pledge_93 : decode cX6_pledge 93 = .ok (.iconst 1, 1) := by decide +kernel
theorem dX6_pledge_94 : decode cX6_pledge 94 = .ok (.goto 4, 3) := by decide +kernel
theorem dX6_pledge_97 : decode cX6_pledge 97 = .ok (.iconst 0, 1) := by decide +kernel
theorem dX6_pledge_98 : decode cX6_pledge 98 = .ok (.invokestatic 35, 3) := by decide +kernel
theorem dX6_pledge_101 : decode cX6_pledge 101 = .ok (.aload_n 0, 1) := by decide +kernel
theorem dX6_pledge_102 : decode cX6_pledge 102 = .ok (.getfield 10, 3) := by decide +kernel
theorem dX6_pledge_105 : decode cX6_pledge 105 = .ok (.getfield 82, 3) := by decide +kernel
theorem dX6_pledge_108 : decode cX6_pledge 108 = .ok (.iload 4, 2) := by decide +kernel
theorem dX6_pledge_110 : decode cX6_pledge 110 = .ok (.invokevirtual 86, 3) := by decide +kernel
theorem dX6_pledge_113 : decode cX6_pledge 113 = .ok (.iconst (-1), 1) := by decide +kernel
theorem dX6_pledge_114 : decode cX6_pledge 114 = .ok (.if_icmp .eq 7, 3) := by decide +kernel
theorem dX6_pledge_117 : decode cX6_pledge 117 = .ok (.iconst 1, 1) := by decide +kernel
theorem dX6_pledge_118 : decode cX6_pledge 118 = .ok (.goto 4, 3) := by decide +kernel
theorem dX6_pledge_121 : decode cX6_pledge 121 = .ok (.iconst 0, 1) := by decide +kernel
theorem dX6_pledge_122 : decode cX6_pledge 122 = .ok (.invokestatic 35, 3) := by decide +kernel
theorem dX6_pledge_125 : decode cX6_pledge 125 = .ok (.aload_n 0, 1) := by decide +kernel
theorem dX6_pledge_126 : decode cX6_pledge 126 = .ok (.getfield 10, 3) := by decide +kernel
theorem dX6_pledge_129 : decode cX6_pledge 129 = .ok (.iload_n 1, 1) := by decide +kernel
theorem dX6_pledge_130 : decode cX6_pledge 130 = .ok (.iload_n 2, 1) := by decide +kernel
theorem dX6_pledge_131 : decode cX6_pledge 131 = .ok (.iload_n 3, 1) := by decide +kernel
theorem dX6_pledge_132 : decode cX6_pledge 132 = .ok (.iload 4, 2) := by decide +kernel
theorem dX6_pledge_134 : decode cX6_pledge 134 = .ok (.invokevirtual 91, 3) := by decide +kernel
theorem dX6_pledge_137 : decode cX6_pledge 137 = .ok (.ireturn, 1) := by decide +kernel
theorem dX6_ticket_0 : decode cX6_ticket 0 = .ok (.aload_n 0, 1) := by decide +kernel
theorem dX6_ticket_1 : decode cX6_ticket 1 = .ok (.getfield 10, 3) := by decide +kernel
theorem dX6_ticket_4 : decode cX6_ticket 4 = .ok (.iload_n 1, 1) := by decide +kernel
theorem dX6_ticket_5 : decode cX6_ticket 5 = .ok (.invokevirtual 95, 3) := by decide +kernel
theorem dX6_ticket_8 : decode cX6_ticket 8 = .ok (.ifCond .eq 17, 3) := by decide +kernel
theorem dX6_ticket_11 : decode cX6_ticket 11 = .ok (.iload_n 2, 1) := by decide +kernel
theorem dX6_ticket_12 : decode cX6_ticket 12 = .ok (.iconst 0, 1) := by decide +kernel
theorem dX6_ticket_13 : decode cX6_ticket 13 = .ok (.bipush 10, 2) := by decide +kernel
theorem dX6_ticket_15 : decode cX6_ticket 15 = .ok (.invokestatic 23, 3) := by decide +kernel
theorem dX6_ticket_18 : decode cX6_ticket 18 = .ok (.ifCond .eq 7, 3) := by decide +kernel
theorem dX6_ticket_21 : decode cX6_ticket 21 = .ok (.iconst 1, 1) := by decide +kernel
theorem dX6_ticket_22 : decode cX6_ticket 22 = .ok (.goto 4, 3) := by decide +kernel
theorem dX6_ticket_25 : decode cX6_ticket 25 = .ok (.iconst 0, 1) := by decide +kernel
theorem dX6_ticket_26 : decode cX6_ticket 26 = .ok (.invokestatic 46, 3) := by decide +kernel
theorem dX6_ticket_29 : decode cX6_ticket 29 = .ok (.aload_n 0, 1) := by decide +kernel
theorem dX6_ticket_30 : decode cX6_ticket 30 = .ok (.getfield 10, 3) := by decide +kernel
theorem dX6_ticket_33 : decode cX6_ticket 33 = .ok (.iload_n 1, 1) := by decide +kernel
theorem dX6_ticket_34 : decode cX6_ticket 34 = .ok (.iload_n 2, 1) := by decide +kernel
theorem dX6_ticket_35 : decode cX6_ticket 35 = .ok (.invokevirtual 98, 3) := by decide +kernel
theorem dX6_ticket_38 : decode cX6_ticket 38 = .ok (.ireturn, 1) := by decide +kernel
theorem dX6_owes_0 : decode cX6_owes 0 = .ok (.aload_n 0, 1) := by decide +kernel
theorem dX6_owes_1 : decode cX6_owes 1 = .ok (.getfield 10, 3) := by decide +kernel
theorem dX6_owes_4 : decode cX6_owes 4 = .ok (.iload_n 1, 1) := by decide +kernel
theorem dX6_owes_5 : decode cX6_owes 5 = .ok (.invokevirtual 95, 3) := by decide +kernel
theorem dX6_owes_8 : decode cX6_owes 8 = .ok (.invokestatic 46, 3) := by decide +kernel
theorem dX6_owes_11 : decode cX6_owes 11 = .ok (.aload_n 0, 1) := by decide +kernel
theorem dX6_owes_12 : decode cX6_owes 12 = .ok (.getfield 10, 3) := by decide +kernel
theorem dX6_owes_15 : decode cX6_owes 15 = .ok (.getfield 101, 3) := by decide +kernel
theorem dX6_owes_18 : decode cX6_owes 18 = .ok (.iload_n 1, 1) := by decide +kernel
theorem dX6_owes_19 : decode cX6_owes 19 = .ok (.aaload, 1) := by decide +kernel
theorem dX6_owes_20 : decode cX6_owes 20 = .ok (.aload_n 0, 1) := by decide +kernel
theorem dX6_owes_21 : decode cX6_owes 21 = .ok (.getfield 10, 3) := by decide +kernel
theorem dX6_owes_24 : decode cX6_owes 24 = .ok (.getfield 105, 3) := by decide +kernel
theorem dX6_owes_27 : decode cX6_owes 27 = .ok (.invokevirtual 108, 3) := by decide +kernel
theorem dX6_owes_30 : decode cX6_owes 30 = .ok (.ireturn, 1) := by decide +kernel
theorem dX6_renew_0 : decode cX6_renew 0 = .ok (.aload_n 0, 1) := by decide +kernel
theorem dX6_renew_1 : decode cX6_renew 1 = .ok (.getfield 10, 3) := by decide +kernel
theorem dX6_renew_4 : decode cX6_renew 4 = .ok (.iload_n 1, 1) := by decide +kernel
theorem dX6_renew_5 : decode cX6_renew 5 = .ok (.invokevirtual 95, 3) := by decide +kernel
theorem dX6_renew_8 : decode cX6_renew 8 = .ok (.invokestatic 46, 3) := by decide +kernel
theorem dX6_renew_11 : decode cX6_renew 11 = .ok (.aload_n 0, 1) := by decide +kernel
theorem dX6_renew_12 : decode cX6_renew 12 = .ok (.getfield 10, 3) := by decide +kernel
theorem dX6_renew_15 : decode cX6_renew 15 = .ok (.getfield 101, 3) := by decide +kernel
theorem dX6_renew_18 : decode cX6_renew 18 = .ok (.iload_n 1, 1) := by decide +kernel
theorem dX6_renew_19 : decode cX6_renew 19 = .ok (.aaload, 1) := by decide +kernel
theorem dX6_renew_20 : decode cX6_renew 20 = .ok (.astore_n 2, 1) := by decide +kernel
theorem dX6_renew_21 : decode cX6_renew 21 = .ok (.aload_n 2, 1) := by decide +kernel
theorem dX6_renew_22 : decode cX6_renew 22 = .ok (.getfield 113, 3) := by decide +kernel
theorem dX6_renew_25 : decode cX6_renew 25 = .ok (.ifCond .ne 15, 3) := by decide +kernel
theorem dX6_renew_28 : decode cX6_renew 28 = .ok (.aload_n 2, 1) := by decide +kernel
theorem dX6_renew_29 : decode cX6_renew 29 = .ok (.getfield 116, 3) := by decide +kernel
theorem dX6_renew_32 : decode cX6_renew 32 = .ok (.iconst 3, 1) := by decide +kernel
theorem dX6_renew_33 : decode cX6_renew 33 = .ok (.if_icmp .ge 7, 3) := by decide +kernel
theorem dX6_renew_36 : decode cX6_renew 36 = .ok (.iconst 1, 1) := by decide +kernel
theorem dX6_renew_37 : decode cX6_renew 37 = .ok (.goto 4, 3) := by decide +kernel
theorem dX6_renew_40 : decode cX6_renew 40 = .ok (.iconst 0, 1) := by decide +kernel
theorem dX6_renew_41 : decode cX6_renew 41 = .ok (.invokestatic 35, 3) := by decide +kernel
theorem dX6_renew_44 : decode cX6_renew 44 = .ok (.aload_n 2, 1) := by decide +kernel
theorem dX6_renew_45 : decode cX6_renew 45 = .ok (.aload_n 0, 1) := by decide +kernel
theorem dX6_renew_46 : decode cX6_renew 46 = .ok (.getfield 10, 3) := by decide +kernel
theorem dX6_renew_49 : decode cX6_renew 49 = .ok (.getfield 105, 3) := by decide +kernel
theorem dX6_renew_52 : decode cX6_renew 52 = .ok (.invokevirtual 119, 3) := by decide +kernel
theorem dX6_renew_55 : decode cX6_renew 55 = .ok (.istore_n 3, 1) := by decide +kernel
theorem dX6_renew_56 : decode cX6_renew 56 = .ok (.aload_n 0, 1) := by decide +kernel
theorem dX6_renew_57 : decode cX6_renew 57 = .ok (.getfield 10, 3) := by decide +kernel
theorem dX6_renew_60 : decode cX6_renew 60 = .ok (.aload_n 2, 1) := by decide +kernel
theorem dX6_renew_61 : decode cX6_renew 61 = .ok (.getfield 122, 3) := by decide +kernel
theorem dX6_renew_64 : decode cX6_renew 64 = .ok (.iload_n 3, 1) := by decide +kernel
theorem dX6_renew_65 : decode cX6_renew 65 = .ok (.invokevirtual 125, 3) := by decide +kernel
theorem dX6_renew_68 : decode cX6_renew 68 = .ok (.invokestatic 35, 3) := by decide +kernel
theorem dX6_renew_71 : decode cX6_renew 71 = .ok (.aload_n 0, 1) := by decide +kernel
theorem dX6_renew_72 : decode cX6_renew 72 = .ok (.getfield 10, 3) := by decide +kernel
theorem dX6_renew_75 : decode cX6_renew 75 = .ok (.aload_n 2, 1) := by decide +kernel
theorem dX6_renew_76 : decode cX6_renew 76 = .ok (.getfield 122, 3) := by decide +kernel
theorem dX6_renew_79 : decode cX6_renew 79 = .ok (.iload_n 3, 1) := by decide +kernel
theorem dX6_renew_80 : decode cX6_renew 80 = .ok (.iload_n 3, 1) := by decide +kernel
theorem dX6_renew_81 : decode cX6_renew 81 = .ok (.invokevirtual 129, 3) := by decide +kernel
theorem dX6_renew_84 : decode cX6_renew 84 = .ok (.aload_n 2, 1) := by decide +kernel
theorem dX6_renew_85 : decode cX6_renew 85 = .ok (.aload_n 0, 1) := by decide +kernel
theorem dX6_renew_86 : decode cX6_renew 86 = .ok (.getfield 10, 3) := by decide +kernel
theorem dX6_renew_89 : decode cX6_renew 89 = .ok (.getfield 105, 3) := by decide +kernel
theorem dX6_renew_92 : decode cX6_renew 92 = .ok (.invokevirtual 133, 3) := by decide +kernel
theorem dX6_renew_95 : decode cX6_renew 95 = .ok (.iload_n 3, 1) := by decide +kernel
theorem dX6_renew_96 : decode cX6_renew 96 = .ok (.ireturn, 1) := by decide +kernel
theorem dX6_fetch_0 : decode cX6_fetch 0 = .ok (.aload_n 0, 1) := by decide +kernel
theorem dX6_fetch_1 : decode cX6_fetch 1 = .ok (.getfield 10, 3) := by decide +kernel
theorem dX6_fetch_4 : decode cX6_fetch 4 = .ok (.iload_n 1, 1) := by decide +kernel
theorem dX6_fetch_5 : decode cX6_fetch 5 = .ok (.invokevirtual 95, 3) := by decide +kernel
theorem dX6_fetch_8 : decode cX6_fetch 8 = .ok (.invokestatic 46, 3) := by decide +kernel
theorem dX6_fetch_11 : decode cX6_fetch 11 = .ok (.aload_n 0, 1) := by decide +kernel
theorem dX6_fetch_12 : decode cX6_fetch 12 = .ok (.getfield 10, 3) := by decide +kernel
theorem dX6_fetch_15 : decode cX6_fetch 15 = .ok (.getfield 101, 3) := by decide +kernel
theorem dX6_fetch_18 : decode cX6_fetch 18 = .ok (.iload_n 1, 1) := by decide +kernel
theorem dX6_fetch_19 : decode cX6_fetch 19 = .ok (.aaload, 1) := by decide +kernel
theorem dX6_fetch_20 : decode cX6_fetch 20 = .ok (.astore_n 2, 1) := by decide +kernel
theorem dX6_fetch_21 : decode cX6_fetch 21 = .ok (.aload_n 2, 1) := by decide +kernel
theorem dX6_fetch_22 : decode cX6_fetch 22 = .ok (.getfield 113, 3) := by decide +kernel
theorem dX6_fetch_25 : decode cX6_fetch 25 = .ok (.ifCond .ne 7, 3) := by decide +kernel
theorem dX6_fetch_28 : decode cX6_fetch 28 = .ok (.iconst 1, 1) := by decide +kernel
theorem dX6_fetch_29 : decode cX6_fetch 29 = .ok (.goto 4, 3) := by decide +kernel
theorem dX6_fetch_32 : decode cX6_fetch 32 = .ok (.iconst 0, 1) := by decide +kernel
theorem dX6_fetch_33 : decode cX6_fetch 33 = .ok (.invokestatic 35, 3) := by decide +kernel
theorem dX6_fetch_36 : decode cX6_fetch 36 = .ok (.aload_n 2, 1) := by decide +kernel
theorem dX6_fetch_37 : decode cX6_fetch 37 = .ok (.aload_n 0, 1) := by decide +kernel
theorem dX6_fetch_38 : decode cX6_fetch 38 = .ok (.getfield 10, 3) := by decide +kernel
theorem dX6_fetch_41 : decode cX6_fetch 41 = .ok (.getfield 105, 3) := by decide +kernel
theorem dX6_fetch_44 : decode cX6_fetch 44 = .ok (.invokevirtual 108, 3) := by decide +kernel
theorem dX6_fetch_47 : decode cX6_fetch 47 = .ok (.istore_n 3, 1) := by decide +kernel
theorem dX6_fetch_48 : decode cX6_fetch 48 = .ok (.aload_n 0, 1) := by decide +kernel
theorem dX6_fetch_49 : decode cX6_fetch 49 = .ok (.getfield 10, 3) := by decide +kernel
theorem dX6_fetch_52 : decode cX6_fetch 52 = .ok (.aload_n 2, 1) := by decide +kernel
theorem dX6_fetch_53 : decode cX6_fetch 53 = .ok (.getfield 122, 3) := by decide +kernel
theorem dX6_fetch_56 : decode cX6_fetch 56 = .ok (.iload_n 3, 1) := by decide +kernel
theorem dX6_fetch_57 : decode cX6_fetch 57 = .ok (.invokevirtual 125, 3) := by decide +kernel
theorem dX6_fetch_60 : decode cX6_fetch 60 = .ok (.invokestatic 35, 3) := by decide +kernel
theorem dX6_fetch_63 : decode cX6_fetch 63 = .ok (.aload_n 0, 1) := by decide +kernel
theorem dX6_fetch_64 : decode cX6_fetch 64 = .ok (.getfield 10, 3) := by decide +kernel
theorem dX6_fetch_67 : decode cX6_fetch 67 = .ok (.aload_n 2, 1) := by decide +kernel
theorem dX6_fetch_68 : decode cX6_fetch 68 = .ok (.getfield 122, 3) := by decide +kernel
theorem dX6_fetch_71 : decode cX6_fetch 71 = .ok (.iload_n 3, 1) := by decide +kernel
theorem dX6_fetch_72 : decode cX6_fetch 72 = .ok (.aload_n 2, 1) := by decide +kernel
theorem dX6_fetch_73 : decode cX6_fetch 73 = .ok (.aload_n 0, 1) := by decide +kernel
theorem dX6_fetch_74 : decode cX6_fetch 74 = .ok (.getfield 10, 3) := by decide +kernel
theorem dX6_fetch_77 : decode cX6_fetch 77 = .ok (.getfield 105, 3) := by decide +kernel
theorem dX6_fetch_80 : decode cX6_fetch 80 = .ok (.invokevirtual 119, 3) := by decide +kernel
theorem dX6_fetch_83 : decode cX6_fetch 83 = .ok (.invokevirtual 129, 3) := by decide +kernel
theorem dX6_fetch_86 : decode cX6_fetch 86 = .ok (.aload_n 0, 1) := by decide +kernel
theorem dX6_fetch_87 : decode cX6_fetch 87 = .ok (.getfield 10, 3) := by decide +kernel
theorem dX6_fetch_90 : decode cX6_fetch 90 = .ok (.iload_n 1, 1) := by decide +kernel
theorem dX6_fetch_91 : decode cX6_fetch 91 = .ok (.invokevirtual 137, 3) := by decide +kernel
theorem dX6_fetch_94 : decode cX6_fetch 94 = .ok (.iload_n 3, 1) := by decide +kernel
theorem dX6_fetch_95 : decode cX6_fetch 95 = .ok (.ireturn, 1) := by decide +kernel
theorem dX6_at_0 : decode cX6_at 0 = .ok (.aload_n 0, 1) := by decide +kernel
theorem dX6_at_1 : decode cX6_at 1 = .ok (.getfield 10, 3) := by decide +kernel
theorem dX6_at_4 : decode cX6_at 4 = .ok (.getfield 82, 3) := by decide +kernel
theorem dX6_at_7 : decode cX6_at 7 = .ok (.iload_n 1, 1) := by decide +kernel
theorem dX6_at_8 : decode cX6_at 8 = .ok (.iload_n 2, 1) := by decide +kernel
theorem dX6_at_9 : decode cX6_at 9 = .ok (.invokevirtual 140, 3) := by decide +kernel
theorem dX6_at_12 : decode cX6_at 12 = .ok (.invokestatic 46, 3) := by decide +kernel
theorem dX6_at_15 : decode cX6_at 15 = .ok (.aload_n 0, 1) := by decide +kernel
theorem dX6_at_16 : decode cX6_at 16 = .ok (.getfield 10, 3) := by decide +kernel
theorem dX6_at_19 : decode cX6_at 19 = .ok (.getfield 82, 3) := by decide +kernel
theorem dX6_at_22 : decode cX6_at 22 = .ok (.getfield 143, 3) := by decide +kernel
theorem dX6_at_25 : decode cX6_at 25 = .ok (.iload_n 1, 1) := by decide +kernel
theorem dX6_at_26 : decode cX6_at 26 = .ok (.aaload, 1) := by decide +kernel
theorem dX6_at_27 : decode cX6_at 27 = .ok (.getfield 147, 3) := by decide +kernel
theorem dX6_at_30 : decode cX6_at 30 = .ok (.iload_n 2, 1) := by decide +kernel
theorem dX6_at_31 : decode cX6_at 31 = .ok (.iaload, 1) := by decide +kernel
theorem dX6_at_32 : decode cX6_at 32 = .ok (.ireturn, 1) := by decide +kernel
theorem dX6_room_0 : decode cX6_room 0 = .ok (.iload_n 1, 1) := by decide +kernel
theorem dX6_room_1 : decode cX6_room 1 = .ok (.iconst 1, 1) := by decide +kernel
theorem dX6_room_2 : decode cX6_room 2 = .ok (.bipush 10, 2) := by decide +kernel
theorem dX6_room_4 : decode cX6_room 4 = .ok (.invokestatic 23, 3) := by decide +kernel
theorem dX6_room_7 : decode cX6_room 7 = .ok (.invokestatic 27, 3) := by decide +kernel
theorem dX6_room_10 : decode cX6_room 10 = .ok (.aload_n 0, 1) := by decide +kernel
theorem dX6_room_11 : decode cX6_room 11 = .ok (.getfield 10, 3) := by decide +kernel
theorem dX6_room_14 : decode cX6_room 14 = .ok (.getfield 82, 3) := by decide +kernel
theorem dX6_room_17 : decode cX6_room 17 = .ok (.iload_n 1, 1) := by decide +kernel
theorem dX6_room_18 : decode cX6_room 18 = .ok (.invokevirtual 86, 3) := by decide +kernel
theorem dX6_room_21 : decode cX6_room 21 = .ok (.ireturn, 1) := by decide +kernel
theorem dX6_tidy_0 : decode cX6_tidy 0 = .ok (.aload_n 0, 1) := by decide +kernel
theorem dX6_tidy_1 : decode cX6_tidy 1 = .ok (.getfield 10, 3) := by decide +kernel
theorem dX6_tidy_4 : decode cX6_tidy 4 = .ok (.getfield 82, 3) := by decide +kernel
theorem dX6_tidy_7 : decode cX6_tidy 7 = .ok (.invokevirtual 152, 3) := by decide +kernel
theorem dX6_tidy_10 : decode cX6_tidy 10 = .ok (.ireturn, 1) := by decide +kernel
theorem dX6_pass_0 : decode cX6_pass 0 = .ok (.iload_n 1, 1) := by decide +kernel
theorem dX6_pass_1 : decode cX6_pass 1 = .ok (.iconst 1, 1) := by decide +kernel
theorem dX6_pass_2 : decode cX6_pass 2 = .ok (.sipush 200, 3) := by decide +kernel
theorem dX6_pass_5 : decode cX6_pass 5 = .ok (.invokestatic 23, 3) := by decide +kernel
theorem dX6_pass_8 : decode cX6_pass 8 = .ok (.invokestatic 27, 3) := by decide +kernel
theorem dX6_pass_11 : decode cX6_pass 11 = .ok (.aload_n 0, 1) := by decide +kernel
theorem dX6_pass_12 : decode cX6_pass 12 = .ok (.getfield 10, 3) := by decide +kernel
theorem dX6_pass_15 : decode cX6_pass 15 = .ok (.iload_n 1, 1) := by decide +kernel
theorem dX6_pass_16 : decode cX6_pass 16 = .ok (.invokevirtual 156, 3) := by decide +kernel
theorem dX6_pass_19 : decode cX6_pass 19 = .ok (.ireturn, 1) := by decide +kernel
theorem dX6_count_0 : decode cX6_count 0 = .ok (.iload_n 1, 1) := by decide +kernel
theorem dX6_count_1 : decode cX6_count 1 = .ok (.iconst 0, 1) := by decide +kernel
theorem dX6_count_2 : decode cX6_count 2 = .ok (.bipush 10, 2) := by decide +kernel
theorem dX6_count_4 : decode cX6_count 4 = .ok (.invokestatic 23, 3) := by decide +kernel
theorem dX6_count_7 : decode cX6_count 7 = .ok (.invokestatic 46, 3) := by decide +kernel
theorem dX6_count_10 : decode cX6_count 10 = .ok (.aload_n 0, 1) := by decide +kernel
theorem dX6_count_11 : decode cX6_count 11 = .ok (.getfield 10, 3) := by decide +kernel
theorem dX6_count_14 : decode cX6_count 14 = .ok (.iload_n 1, 1) := by decide +kernel
theorem dX6_count_15 : decode cX6_count 15 = .ok (.invokevirtual 159, 3) := by decide +kernel
theorem dX6_count_18 : decode cX6_count 18 = .ok (.ireturn, 1) := by decide +kernel
theorem dX6_foresee_0 : decode cX6_foresee 0 = .ok (.iload_n 1, 1) := by decide +kernel
theorem dX6_foresee_1 : decode cX6_foresee 1 = .ok (.iconst 1, 1) := by decide +kernel
theorem dX6_foresee_2 : decode cX6_foresee 2 = .ok (.sipush 200, 3) := by decide +kernel
theorem dX6_foresee_5 : decode cX6_foresee 5 = .ok (.invokestatic 23, 3) := by decide +kernel
theorem dX6_foresee_8 : decode cX6_foresee 8 = .ok (.invokestatic 27, 3) := by decide +kernel
theorem dX6_foresee_11 : decode cX6_foresee 11 = .ok (.iload_n 2, 1) := by decide +kernel
theorem dX6_foresee_12 : decode cX6_foresee 12 = .ok (.iconst 0, 1) := by decide +kernel
theorem dX6_foresee_13 : decode cX6_foresee 13 = .ok (.iconst 2, 1) := by decide +kernel
theorem dX6_foresee_14 : decode cX6_foresee 14 = .ok (.invokestatic 23, 3) := by decide +kernel
theorem dX6_foresee_17 : decode cX6_foresee 17 = .ok (.invokestatic 46, 3) := by decide +kernel
theorem dX6_foresee_20 : decode cX6_foresee 20 = .ok (.aload_n 0, 1) := by decide +kernel
theorem dX6_foresee_21 : decode cX6_foresee 21 = .ok (.getfield 16, 3) := by decide +kernel
theorem dX6_foresee_24 : decode cX6_foresee 24 = .ok (.aload_n 0, 1) := by decide +kernel
theorem dX6_foresee_25 : decode cX6_foresee 25 = .ok (.getfield 10, 3) := by decide +kernel
theorem dX6_foresee_28 : decode cX6_foresee 28 = .ok (.invokevirtual 162, 3) := by decide +kernel
theorem dX6_foresee_31 : decode cX6_foresee 31 = .ok (.aload_n 0, 1) := by decide +kernel
theorem dX6_foresee_32 : decode cX6_foresee 32 = .ok (.getfield 16, 3) := by decide +kernel
theorem dX6_foresee_35 : decode cX6_foresee 35 = .ok (.iload_n 1, 1) := by decide +kernel
theorem dX6_foresee_36 : decode cX6_foresee 36 = .ok (.invokevirtual 156, 3) := by decide +kernel
theorem dX6_foresee_39 : decode cX6_foresee 39 = .ok (.istore_n 3, 1) := by decide +kernel
theorem dX6_foresee_40 : decode cX6_foresee 40 = .ok (.iload_n 2, 1) := by decide +kernel
theorem dX6_foresee_41 : decode cX6_foresee 41 = .ok (.lookupswitch 37 #[(0, 27), (1, 35)], 27) := by decide +kernel
theorem dX6_foresee_68 : decode cX6_foresee 68 = .ok (.aload_n 0, 1) := by decide +kernel
theorem dX6_foresee_69 : decode cX6_foresee 69 = .ok (.getfield 16, 3) := by decide +kernel
theorem dX6_foresee_72 : decode cX6_foresee 72 = .ok (.getfield 78, 3) := by decide +kernel
theorem dX6_foresee_75 : decode cX6_foresee 75 = .ok (.ireturn, 1) := by decide +kernel
theorem dX6_foresee_76 : decode cX6_foresee 76 = .ok (.iload_n 3, 1) := by decide +kernel
theorem dX6_foresee_77 : decode cX6_foresee 77 = .ok (.ireturn, 1) := by decide +kernel
theorem dX6_foresee_78 : decode cX6_foresee 78 = .ok (.aload_n 0, 1) := by decide +kernel
theorem dX6_foresee_79 : decode cX6_foresee 79 = .ok (.getfield 16, 3) := by decide +kernel
theorem dX6_foresee_82 : decode cX6_foresee 82 = .ok (.iconst 2, 1) := by decide +kernel
theorem dX6_foresee_83 : decode cX6_foresee 83 = .ok (.invokevirtual 166, 3) := by decide +kernel
theorem dX6_foresee_86 : decode cX6_foresee 86 = .ok (.ireturn, 1) := by decide +kernel
theorem dX6_raise_0 : decode cX6_raise 0 = .ok (.iload_n 1, 1) := by decide +kernel
theorem dX6_raise_1 : decode cX6_raise 1 = .ok (.iconst 1, 1) := by decide +kernel
theorem dX6_raise_2 : decode cX6_raise 2 = .ok (.if_icmp .lt 7, 3) := by decide +kernel
theorem dX6_raise_5 : decode cX6_raise 5 = .ok (.iconst 1, 1) := by decide +kernel
theorem dX6_raise_6 : decode cX6_raise 6 = .ok (.goto 4, 3) := by decide +kernel
theorem dX6_raise_9 : decode cX6_raise 9 = .ok (.iconst 0, 1) := by decide +kernel
theorem dX6_raise_10 : decode cX6_raise 10 = .ok (.invokestatic 27, 3) := by decide +kernel
theorem dX6_raise_13 : decode cX6_raise 13 = .ok (.aload_n 0, 1) := by decide +kernel
theorem dX6_raise_14 : decode cX6_raise 14 = .ok (.getfield 10, 3) := by decide +kernel
theorem dX6_raise_17 : decode cX6_raise 17 = .ok (.aload_n 0, 1) := by decide +kernel
theorem dX6_raise_18 : decode cX6_raise 18 = .ok (.getfield 19, 3) := by decide +kernel
theorem dX6_raise_21 : decode cX6_raise 21 = .ok (.invokevirtual 169, 3) := by decide +kernel
theorem dX6_raise_24 : decode cX6_raise 24 = .ok (.istore_n 2, 1) := by decide +kernel
theorem dX6_raise_25 : decode cX6_raise 25 = .ok (.aload_n 0, 1) := by decide +kernel
theorem dX6_raise_26 : decode cX6_raise 26 = .ok (.getfield 19, 3) := by decide +kernel
theorem dX6_raise_29 : decode cX6_raise 29 = .ok (.iload_n 2, 1) := by decide +kernel
theorem dX6_raise_30 : decode cX6_raise 30 = .ok (.invokestatic 173, 3) := by decide +kernel
theorem dX6_raise_33 : decode cX6_raise 33 = .ok (.iconst 0, 1) := by decide +kernel
theorem dX6_raise_34 : decode cX6_raise 34 = .ok (.istore_n 3, 1) := by decide +kernel
theorem dX6_raise_35 : decode cX6_raise 35 = .ok (.iload_n 2, 1) := by decide +kernel
theorem dX6_raise_36 : decode cX6_raise 36 = .ok (.iconst 1, 1) := by decide +kernel
theorem dX6_raise_37 : decode cX6_raise 37 = .ok (.isub, 1) := by decide +kernel
theorem dX6_raise_38 : decode cX6_raise 38 = .ok (.istore 4, 2) := by decide +kernel
theorem dX6_raise_40 : decode cX6_raise 40 = .ok (.iload 4, 2) := by decide +kernel
theorem dX6_raise_42 : decode cX6_raise 42 = .ok (.ifCond .lt 29, 3) := by decide +kernel
theorem dX6_raise_45 : decode cX6_raise 45 = .ok (.iload_n 3, 1) := by decide +kernel
theorem dX6_raise_46 : decode cX6_raise 46 = .ok (.aload_n 0, 1) := by decide +kernel
theorem dX6_raise_47 : decode cX6_raise 47 = .ok (.getfield 19, 3) := by decide +kernel
theorem dX6_raise_50 : decode cX6_raise 50 = .ok (.iload 4, 2) := by decide +kernel
theorem dX6_raise_52 : decode cX6_raise 52 = .ok (.iaload, 1) := by decide +kernel
theorem dX6_raise_53 : decode cX6_raise 53 = .ok (.iadd, 1) := by decide +kernel
theorem dX6_raise_54 : decode cX6_raise 54 = .ok (.istore_n 3, 1) := by decide +kernel
theorem dX6_raise_55 : decode cX6_raise 55 = .ok (.iload_n 3, 1) := by decide +kernel
theorem dX6_raise_56 : decode cX6_raise 56 = .ok (.iload_n 1, 1) := by decide +kernel
theorem dX6_raise_57 : decode cX6_raise 57 = .ok (.if_icmp .lt 8, 3) := by decide +kernel
theorem dX6_raise_60 : decode cX6_raise 60 = .ok (.iload_n 2, 1) := by decide +kernel
theorem dX6_raise_61 : decode cX6_raise 61 = .ok (.iload 4, 2) := by decide +kernel
theorem dX6_raise_63 : decode cX6_raise 63 = .ok (.isub, 1) := by decide +kernel
theorem dX6_raise_64 : decode cX6_raise 64 = .ok (.ireturn, 1) := by decide +kernel
theorem dX6_raise_65 : decode cX6_raise 65 = .ok (.iinc 4 (-1), 3) := by decide +kernel
theorem dX6_raise_68 : decode cX6_raise 68 = .ok (.goto (-28), 3) := by decide +kernel
theorem dX6_raise_71 : decode cX6_raise 71 = .ok (.iconst (-1), 1) := by decide +kernel
theorem dX6_raise_72 : decode cX6_raise 72 = .ok (.ireturn, 1) := by decide +kernel
theorem dX6_best_0 : decode cX6_best 0 = .ok (.aload_n 0, 1) := by decide +kernel
theorem dX6_best_1 : decode cX6_best 1 = .ok (.getfield 10, 3) := by decide +kernel
theorem dX6_best_4 : decode cX6_best 4 = .ok (.iload_n 1, 1) := by decide +kernel
theorem dX6_best_5 : decode cX6_best 5 = .ok (.invokevirtual 42, 3) := by decide +kernel
theorem dX6_best_8 : decode cX6_best 8 = .ok (.invokestatic 46, 3) := by decide +kernel
theorem dX6_best_11 : decode cX6_best 11 = .ok (.aload_n 0, 1) := by decide +kernel
theorem dX6_best_12 : decode cX6_best 12 = .ok (.getfield 10, 3) := by decide +kernel
theorem dX6_best_15 : decode cX6_best 15 = .ok (.iload_n 1, 1) := by decide +kernel
theorem dX6_best_16 : decode cX6_best 16 = .ok (.invokevirtual 177, 3) := by decide +kernel
theorem dX6_best_19 : decode cX6_best 19 = .ok (.ireturn, 1) := by decide +kernel
theorem dX6_most_0 : decode cX6_most 0 = .ok (.aload_n 0, 1) := by decide +kernel
theorem dX6_most_1 : decode cX6_most 1 = .ok (.getfield 10, 3) := by decide +kernel
theorem dX6_most_4 : decode cX6_most 4 = .ok (.iload_n 1, 1) := by decide +kernel
theorem dX6_most_5 : decode cX6_most 5 = .ok (.invokevirtual 42, 3) := by decide +kernel
theorem dX6_most_8 : decode cX6_most 8 = .ok (.invokestatic 46, 3) := by decide +kernel
theorem dX6_most_11 : decode cX6_most 11 = .ok (.aload_n 0, 1) := by decide +kernel
theorem dX6_most_12 : decode cX6_most 12 = .ok (.getfield 10, 3) := by decide +kernel
theorem dX6_most_15 : decode cX6_most 15 = .ok (.iload_n 1, 1) := by decide +kernel
theorem dX6_most_16 : decode cX6_most 16 = .ok (.aload_n 0, 1) := by decide +kernel
theorem dX6_most_17 : decode cX6_most 17 = .ok (.getfield 19, 3) := by decide +kernel
theorem dX6_most_20 : decode cX6_most 20 = .ok (.invokevirtual 180, 3) := by decide +kernel
theorem dX6_most_23 : decode cX6_most 23 = .ok (.istore_n 2, 1) := by decide +kernel
theorem dX6_most_24 : decode cX6_most 24 = .ok (.aload_n 0, 1) := by decide +kernel
theorem dX6_most_25 : decode cX6_most 25 = .ok (.getfield 19, 3) := by decide +kernel
theorem dX6_most_28 : decode cX6_most 28 = .ok (.iload_n 2, 1) := by decide +kernel
theorem dX6_most_29 : decode cX6_most 29 = .ok (.invokestatic 173, 3) := by decide +kernel
theorem dX6_most_32 : decode cX6_most 32 = .ok (.aload_n 0, 1) := by decide +kernel
theorem dX6_most_33 : decode cX6_most 33 = .ok (.getfield 10, 3) := by decide +kernel
theorem dX6_most_36 : decode cX6_most 36 = .ok (.getfield 49, 3) := by decide +kernel
theorem dX6_most_39 : decode cX6_most 39 = .ok (.iload_n 1, 1) := by decide +kernel
theorem dX6_most_40 : decode cX6_most 40 = .ok (.aaload, 1) := by decide +kernel
theorem dX6_most_41 : decode cX6_most 41 = .ok (.getfield 53, 3) := by decide +kernel
theorem dX6_most_44 : decode cX6_most 44 = .ok (.istore_n 3, 1) := by decide +kernel
theorem dX6_most_45 : decode cX6_most 45 = .ok (.iconst 0, 1) := by decide +kernel
theorem dX6_most_46 : decode cX6_most 46 = .ok (.istore 4, 2) := by decide +kernel
theorem dX6_most_48 : decode cX6_most 48 = .ok (.iload 4, 2) := by decide +kernel
theorem dX6_most_50 : decode cX6_most 50 = .ok (.iload_n 2, 1) := by decide +kernel
theorem dX6_most_51 : decode cX6_most 51 = .ok (.if_icmp .ge 30, 3) := by decide +kernel
theorem dX6_most_54 : decode cX6_most 54 = .ok (.aload_n 0, 1) := by decide +kernel
theorem dX6_most_55 : decode cX6_most 55 = .ok (.getfield 19, 3) := by decide +kernel
theorem dX6_most_58 : decode cX6_most 58 = .ok (.iload 4, 2) := by decide +kernel
theorem dX6_most_60 : decode cX6_most 60 = .ok (.iaload, 1) := by decide +kernel
theorem dX6_most_61 : decode cX6_most 61 = .ok (.iload_n 3, 1) := by decide +kernel
theorem dX6_most_62 : decode cX6_most 62 = .ok (.if_icmp .gt 19, 3) := by decide +kernel
theorem dX6_most_65 : decode cX6_most 65 = .ok (.iload_n 3, 1) := by decide +kernel
theorem dX6_most_66 : decode cX6_most 66 = .ok (.aload_n 0, 1) := by decide +kernel
theorem dX6_most_67 : decode cX6_most 67 = .ok (.getfield 19, 3) := by decide +kernel
theorem dX6_most_70 : decode cX6_most 70 = .ok (.iload 4, 2) := by decide +kernel
theorem dX6_most_72 : decode cX6_most 72 = .ok (.iaload, 1) := by decide +kernel
theorem dX6_most_73 : decode cX6_most 73 = .ok (.isub, 1) := by decide +kernel
theorem dX6_most_74 : decode cX6_most 74 = .ok (.istore_n 3, 1) := by decide +kernel
theorem dX6_most_75 : decode cX6_most 75 = .ok (.iinc 4 1, 3) := by decide +kernel
theorem dX6_most_78 : decode cX6_most 78 = .ok (.goto (-30), 3) := by decide +kernel
theorem dX6_most_81 : decode cX6_most 81 = .ok (.iload 4, 2) := by decide +kernel
theorem dX6_most_83 : decode cX6_most 83 = .ok (.ireturn, 1) := by decide +kernel
theorem dX6_fetched_0 : decode cX6_fetched 0 = .ok (.aload_n 0, 1) := by decide +kernel
theorem dX6_fetched_1 : decode cX6_fetched 1 = .ok (.getfield 10, 3) := by decide +kernel
theorem dX6_fetched_4 : decode cX6_fetched 4 = .ok (.iconst 1, 1) := by decide +kernel
theorem dX6_fetched_5 : decode cX6_fetched 5 = .ok (.invokevirtual 166, 3) := by decide +kernel
theorem dX6_fetched_8 : decode cX6_fetched 8 = .ok (.istore_n 1, 1) := by decide +kernel
theorem dX6_fetched_9 : decode cX6_fetched 9 = .ok (.iload_n 1, 1) := by decide +kernel
theorem dX6_fetched_10 : decode cX6_fetched 10 = .ok (.aload_n 0, 1) := by decide +kernel
theorem dX6_fetched_11 : decode cX6_fetched 11 = .ok (.getfield 10, 3) := by decide +kernel
theorem dX6_fetched_14 : decode cX6_fetched 14 = .ok (.iconst 2, 1) := by decide +kernel
theorem dX6_fetched_15 : decode cX6_fetched 15 = .ok (.invokevirtual 166, 3) := by decide +kernel
theorem dX6_fetched_18 : decode cX6_fetched 18 = .ok (.iadd, 1) := by decide +kernel
theorem dX6_fetched_19 : decode cX6_fetched 19 = .ok (.aload_n 0, 1) := by decide +kernel
theorem dX6_fetched_20 : decode cX6_fetched 20 = .ok (.getfield 10, 3) := by decide +kernel
theorem dX6_fetched_23 : decode cX6_fetched 23 = .ok (.iconst 3, 1) := by decide +kernel
theorem dX6_fetched_24 : decode cX6_fetched 24 = .ok (.invokevirtual 166, 3) := by decide +kernel
theorem dX6_fetched_27 : decode cX6_fetched 27 = .ok (.iadd, 1) := by decide +kernel
theorem dX6_fetched_28 : decode cX6_fetched 28 = .ok (.istore_n 2, 1) := by decide +kernel
theorem dX6_fetched_29 : decode cX6_fetched 29 = .ok (.iload_n 2, 1) := by decide +kernel
theorem dX6_fetched_30 : decode cX6_fetched 30 = .ok (.ifCond .ne 7, 3) := by decide +kernel
theorem dX6_fetched_33 : decode cX6_fetched 33 = .ok (.dconst 0, 1) := by decide +kernel
theorem dX6_fetched_34 : decode cX6_fetched 34 = .ok (.goto 8, 3) := by decide +kernel
theorem dX6_fetched_37 : decode cX6_fetched 37 = .ok (.iload_n 1, 1) := by decide +kernel
theorem dX6_fetched_38 : decode cX6_fetched 38 = .ok (.i2d, 1) := by decide +kernel
theorem dX6_fetched_39 : decode cX6_fetched 39 = .ok (.iload_n 2, 1) := by decide +kernel
theorem dX6_fetched_40 : decode cX6_fetched 40 = .ok (.i2d, 1) := by decide +kernel
theorem dX6_fetched_41 : decode cX6_fetched 41 = .ok (.ddiv, 1) := by decide +kernel
theorem dX6_fetched_42 : decode cX6_fetched 42 = .ok (.dreturn, 1) := by decide +kernel
theorem dX6_digest_0 : decode cX6_digest 0 = .ok (.ldc2_w 184, 3) := by decide +kernel
theorem dX6_digest_3 : decode cX6_digest 3 = .ok (.lstore_n 1, 1) := by decide +kernel
theorem dX6_digest_4 : decode cX6_digest 4 = .ok (.iconst 0, 1) := by decide +kernel
theorem dX6_digest_5 : decode cX6_digest 5 = .ok (.istore_n 3, 1) := by decide +kernel
theorem dX6_digest_6 : decode cX6_digest 6 = .ok (.iload_n 3, 1) := by decide +kernel
theorem dX6_digest_7 : decode cX6_digest 7 = .ok (.bipush 11, 2) := by decide +kernel
theorem dX6_digest_9 : decode cX6_digest 9 = .ok (.if_icmp .ge 25, 3) := by decide +kernel
theorem dX6_digest_12 : decode cX6_digest 12 = .ok (.lload_n 1, 1) := by decide +kernel
theorem dX6_digest_13 : decode cX6_digest 13 = .ok (.ldc2_w 186, 3) := by decide +kernel
theorem dX6_digest_16 : decode cX6_digest 16 = .ok (.lmul, 1) := by decide +kernel
theorem dX6_digest_17 : decode cX6_digest 17 = .ok (.aload_n 0, 1) := by decide +kernel
theorem dX6_digest_18 : decode cX6_digest 18 = .ok (.getfield 10, 3) := by decide +kernel
theorem dX6_digest_21 : decode cX6_digest 21 = .ok (.iload_n 3, 1) := by decide +kernel
theorem dX6_digest_22 : decode cX6_digest 22 = .ok (.invokevirtual 159, 3) := by decide +kernel
theorem dX6_digest_25 : decode cX6_digest 25 = .ok (.i2l, 1) := by decide +kernel
theorem dX6_digest_26 : decode cX6_digest 26 = .ok (.ladd, 1) := by decide +kernel
theorem dX6_digest_27 : decode cX6_digest 27 = .ok (.lstore_n 1, 1) := by decide +kernel
theorem dX6_digest_28 : decode cX6_digest 28 = .ok (.iinc 3 1, 3) := by decide +kernel
theorem dX6_digest_31 : decode cX6_digest 31 = .ok (.goto (-25), 3) := by decide +kernel
theorem dX6_digest_34 : decode cX6_digest 34 = .ok (.iconst 0, 1) := by decide +kernel
theorem dX6_digest_35 : decode cX6_digest 35 = .ok (.istore_n 3, 1) := by decide +kernel
theorem dX6_digest_36 : decode cX6_digest 36 = .ok (.iload_n 3, 1) := by decide +kernel
theorem dX6_digest_37 : decode cX6_digest 37 = .ok (.bipush 7, 2) := by decide +kernel
theorem dX6_digest_39 : decode cX6_digest 39 = .ok (.if_icmp .ge 49, 3) := by decide +kernel
theorem dX6_digest_42 : decode cX6_digest 42 = .ok (.lload_n 1, 1) := by decide +kernel
theorem dX6_digest_43 : decode cX6_digest 43 = .ok (.ldc2_w 186, 3) := by decide +kernel
theorem dX6_digest_46 : decode cX6_digest 46 = .ok (.lmul, 1) := by decide +kernel
theorem dX6_digest_47 : decode cX6_digest 47 = .ok (.aload_n 0, 1) := by decide +kernel
theorem dX6_digest_48 : decode cX6_digest 48 = .ok (.getfield 10, 3) := by decide +kernel
theorem dX6_digest_51 : decode cX6_digest 51 = .ok (.getfield 58, 3) := by decide +kernel
theorem dX6_digest_54 : decode cX6_digest 54 = .ok (.iload_n 3, 1) := by decide +kernel
theorem dX6_digest_55 : decode cX6_digest 55 = .ok (.aaload, 1) := by decide +kernel
theorem dX6_digest_56 : decode cX6_digest 56 = .ok (.getfield 62, 3) := by decide +kernel
theorem dX6_digest_59 : decode cX6_digest 59 = .ok (.i2l, 1) := by decide +kernel
theorem dX6_digest_60 : decode cX6_digest 60 = .ok (.ladd, 1) := by decide +kernel
theorem dX6_digest_61 : decode cX6_digest 61 = .ok (.lstore_n 1, 1) := by decide +kernel
theorem dX6_digest_62 : decode cX6_digest 62 = .ok (.lload_n 1, 1) := by decide +kernel
theorem dX6_digest_63 : decode cX6_digest 63 = .ok (.ldc2_w 186, 3) := by decide +kernel
theorem dX6_digest_66 : decode cX6_digest 66 = .ok (.lmul, 1) := by decide +kernel
theorem dX6_digest_67 : decode cX6_digest 67 = .ok (.aload_n 0, 1) := by decide +kernel
theorem dX6_digest_68 : decode cX6_digest 68 = .ok (.getfield 10, 3) := by decide +kernel
theorem dX6_digest_71 : decode cX6_digest 71 = .ok (.getfield 58, 3) := by decide +kernel
theorem dX6_digest_74 : decode cX6_digest 74 = .ok (.iload_n 3, 1) := by decide +kernel
theorem dX6_digest_75 : decode cX6_digest 75 = .ok (.aaload, 1) := by decide +kernel
theorem dX6_digest_76 : decode cX6_digest 76 = .ok (.getfield 188, 3) := by decide +kernel
theorem dX6_digest_79 : decode cX6_digest 79 = .ok (.i2l, 1) := by decide +kernel
theorem dX6_digest_80 : decode cX6_digest 80 = .ok (.ladd, 1) := by decide +kernel
theorem dX6_digest_81 : decode cX6_digest 81 = .ok (.lstore_n 1, 1) := by decide +kernel
theorem dX6_digest_82 : decode cX6_digest 82 = .ok (.iinc 3 1, 3) := by decide +kernel
theorem dX6_digest_85 : decode cX6_digest 85 = .ok (.goto (-49), 3) := by decide +kernel
theorem dX6_digest_88 : decode cX6_digest 88 = .ok (.iconst 0, 1) := by decide +kernel
theorem dX6_digest_89 : decode cX6_digest 89 = .ok (.istore_n 3, 1) := by decide +kernel
theorem dX6_digest_90 : decode cX6_digest 90 = .ok (.iload_n 3, 1) := by decide +kernel
theorem dX6_digest_91 : decode cX6_digest 91 = .ok (.aload_n 0, 1) := by decide +kernel
theorem dX6_digest_92 : decode cX6_digest 92 = .ok (.getfield 10, 3) := by decide +kernel
theorem dX6_digest_95 : decode cX6_digest 95 = .ok (.getfield 31, 3) := by decide +kernel
theorem dX6_digest_98 : decode cX6_digest 98 = .ok (.if_icmp .ge 42, 3) := by decide +kernel
theorem dX6_digest_101 : decode cX6_digest 101 = .ok (.iconst 0, 1) := by decide +kernel
theorem dX6_digest_102 : decode cX6_digest 102 = .ok (.istore 4, 2) := by decide +kernel
theorem dX6_digest_104 : decode cX6_digest 104 = .ok (.iload 4, 2) := by decide +kernel
theorem dX6_digest_106 : decode cX6_digest 106 = .ok (.iconst 5, 1) := by decide +kernel
theorem dX6_digest_107 : decode cX6_digest 107 = .ok (.if_icmp .ge 27, 3) := by decide +kernel
theorem dX6_digest_110 : decode cX6_digest 110 = .ok (.lload_n 1, 1) := by decide +kernel
theorem dX6_digest_111 : decode cX6_digest 111 = .ok (.ldc2_w 186, 3) := by decide +kernel
theorem dX6_digest_114 : decode cX6_digest 114 = .ok (.lmul, 1) := by decide +kernel
theorem dX6_digest_115 : decode cX6_digest 115 = .ok (.aload_n 0, 1) := by decide +kernel
theorem dX6_digest_116 : decode cX6_digest 116 = .ok (.getfield 10, 3) := by decide +kernel
theorem dX6_digest_119 : decode cX6_digest 119 = .ok (.iload_n 3, 1) := by decide +kernel
theorem dX6_digest_120 : decode cX6_digest 120 = .ok (.iload 4, 2) := by decide +kernel
theorem dX6_digest_122 : decode cX6_digest 122 = .ok (.invokevirtual 71, 3) := by decide +kernel
theorem dX6_digest_125 : decode cX6_digest 125 = .ok (.i2l, 1) := by decide +kernel
theorem dX6_digest_126 : decode cX6_digest 126 = .ok (.ladd, 1) := by decide +kernel
theorem dX6_digest_127 : decode cX6_digest 127 = .ok (.lstore_n 1, 1) := by decide +kernel
theorem dX6_digest_128 : decode cX6_digest 128 = .ok (.iinc 4 1, 3) := by decide +kernel
theorem dX6_digest_131 : decode cX6_digest 131 = .ok (.goto (-27), 3) := by decide +kernel
theorem dX6_digest_134 : decode cX6_digest 134 = .ok (.iinc 3 1, 3) := by decide +kernel
theorem dX6_digest_137 : decode cX6_digest 137 = .ok (.goto (-47), 3) := by decide +kernel
theorem dX6_digest_140 : decode cX6_digest 140 = .ok (.iconst 0, 1) := by decide +kernel
theorem dX6_digest_141 : decode cX6_digest 141 = .ok (.istore_n 3, 1) := by decide +kernel
theorem dX6_digest_142 : decode cX6_digest 142 = .ok (.iload_n 3, 1) := by decide +kernel
theorem dX6_digest_143 : decode cX6_digest 143 = .ok (.aload_n 0, 1) := by decide +kernel
theorem dX6_digest_144 : decode cX6_digest 144 = .ok (.getfield 10, 3) := by decide +kernel
theorem dX6_digest_147 : decode cX6_digest 147 = .ok (.getfield 75, 3) := by decide +kernel
theorem dX6_digest_150 : decode cX6_digest 150 = .ok (.if_icmp .ge 70, 3) := by decide +kernel
theorem dX6_digest_153 : decode cX6_digest 153 = .ok (.iconst 0, 1) := by decide +kernel
theorem dX6_digest_154 : decode cX6_digest 154 = .ok (.istore 4, 2) := by decide +kernel
theorem dX6_digest_156 : decode cX6_digest 156 = .ok (.iload 4, 2) := by decide +kernel
theorem dX6_digest_158 : decode cX6_digest 158 = .ok (.bipush 11, 2) := by decide +kernel
theorem dX6_digest_160 : decode cX6_digest 160 = .ok (.if_icmp .ge 27, 3) := by decide +kernel
theorem dX6_digest_163 : decode cX6_digest 163 = .ok (.lload_n 1, 1) := by decide +kernel
theorem dX6_digest_164 : decode cX6_digest 164 = .ok (.ldc2_w 186, 3) := by decide +kernel
theorem dX6_digest_167 : decode cX6_digest 167 = .ok (.lmul, 1) := by decide +kernel
theorem dX6_digest_168 : decode cX6_digest 168 = .ok (.aload_n 0, 1) := by decide +kernel
theorem dX6_digest_169 : decode cX6_digest 169 = .ok (.getfield 10, 3) := by decide +kernel
theorem dX6_digest_172 : decode cX6_digest 172 = .ok (.iload_n 3, 1) := by decide +kernel
theorem dX6_digest_173 : decode cX6_digest 173 = .ok (.iload 4, 2) := by decide +kernel
theorem dX6_digest_175 : decode cX6_digest 175 = .ok (.invokevirtual 98, 3) := by decide +kernel
theorem dX6_digest_178 : decode cX6_digest 178 = .ok (.i2l, 1) := by decide +kernel
theorem dX6_digest_179 : decode cX6_digest 179 = .ok (.ladd, 1) := by decide +kernel
theorem dX6_digest_180 : decode cX6_digest 180 = .ok (.lstore_n 1, 1) := by decide +kernel
theorem dX6_digest_181 : decode cX6_digest 181 = .ok (.iinc 4 1, 3) := by decide +kernel
theorem dX6_digest_184 : decode cX6_digest 184 = .ok (.goto (-28), 3) := by decide +kernel
theorem dX6_digest_187 : decode cX6_digest 187 = .ok (.lload_n 1, 1) := by decide +kernel
theorem dX6_digest_188 : decode cX6_digest 188 = .ok (.ldc2_w 186, 3) := by decide +kernel
theorem dX6_digest_191 : decode cX6_digest 191 = .ok (.lmul, 1) := by decide +kernel
theorem dX6_digest_192 : decode cX6_digest 192 = .ok (.aload_n 0, 1) := by decide +kernel
theorem dX6_digest_193 : decode cX6_digest 193 = .ok (.getfield 10, 3) := by decide +kernel
theorem dX6_digest_196 : decode cX6_digest 196 = .ok (.getfield 101, 3) := by decide +kernel
theorem dX6_digest_199 : decode cX6_digest 199 = .ok (.iload_n 3, 1) := by decide +kernel
theorem dX6_digest_200 : decode cX6_digest 200 = .ok (.aaload, 1) := by decide +kernel
theorem dX6_digest_201 : decode cX6_digest 201 = .ok (.aload_n 0, 1) := by decide +kernel
theorem dX6_digest_202 : decode cX6_digest 202 = .ok (.getfield 10, 3) := by decide +kernel
theorem dX6_digest_205 : decode cX6_digest 205 = .ok (.getfield 105, 3) := by decide +kernel
theorem dX6_digest_208 : decode cX6_digest 208 = .ok (.invokevirtual 108, 3) := by decide +kernel
theorem dX6_digest_211 : decode cX6_digest 211 = .ok (.i2l, 1) := by decide +kernel
theorem dX6_digest_212 : decode cX6_digest 212 = .ok (.ladd, 1) := by decide +kernel
theorem dX6_digest_213 : decode cX6_digest 213 = .ok (.lstore_n 1, 1) := by decide +kernel
theorem dX6_digest_214 : decode cX6_digest 214 = .ok (.iinc 3 1, 3) := by decide +kernel
theorem dX6_digest_217 : decode cX6_digest 217 = .ok (.goto (-75), 3) := by decide +kernel
theorem dX6_digest_220 : decode cX6_digest 220 = .ok (.lload_n 1, 1) := by decide +kernel
theorem dX6_digest_221 : decode cX6_digest 221 = .ok (.lreturn, 1) := by decide +kernel
theorem dX6_isWithin_0 : decode cX6_isWithin 0 = .ok (.iload_n 0, 1) := by decide +kernel
theorem dX6_isWithin_1 : decode cX6_isWithin 1 = .ok (.iload_n 1, 1) := by decide +kernel
theorem dX6_isWithin_2 : decode cX6_isWithin 2 = .ok (.if_icmp .lt 12, 3) := by decide +kernel
theorem dX6_isWithin_5 : decode cX6_isWithin 5 = .ok (.iload_n 0, 1) := by decide +kernel
theorem dX6_isWithin_6 : decode cX6_isWithin 6 = .ok (.iload_n 2, 1) := by decide +kernel
theorem dX6_isWithin_7 : decode cX6_isWithin 7 = .ok (.if_icmp .gt 7, 3) := by decide +kernel
theorem dX6_isWithin_10 : decode cX6_isWithin 10 = .ok (.iconst 1, 1) := by decide +kernel
theorem dX6_isWithin_11 : decode cX6_isWithin 11 = .ok (.goto 4, 3) := by decide +kernel
theorem dX6_isWithin_14 : decode cX6_isWithin 14 = .ok (.iconst 0, 1) := by decide +kernel
theorem dX6_isWithin_15 : decode cX6_isWithin 15 = .ok (.ireturn, 1) := by decide +kernel
theorem dX6_checkIndex_0 : decode cX6_checkIndex 0 = .ok (.iload_n 0, 1) := by decide +kernel
theorem dX6_checkIndex_1 : decode cX6_checkIndex 1 = .ok (.ifCond .ne 13, 3) := by decide +kernel
theorem dX6_checkIndex_4 : decode cX6_checkIndex 4 = .ok (.new 191, 3) := by decide +kernel
theorem dX6_checkIndex_7 : decode cX6_checkIndex 7 = .ok (.dup, 1) := by decide +kernel
theorem dX6_checkIndex_8 : decode cX6_checkIndex 8 = .ok (.ldc 193, 2) := by decide +kernel
theorem dX6_checkIndex_10 : decode cX6_checkIndex 10 = .ok (.invokespecial 195, 3) := by decide +kernel
theorem dX6_checkIndex_13 : decode cX6_checkIndex 13 = .ok (.athrow, 1) := by decide +kernel
theorem dX6_checkIndex_14 : decode cX6_checkIndex 14 = .ok (.return_, 1) := by decide +kernel
theorem dX6_checkArgument_0 : decode cX6_checkArgument 0 = .ok (.iload_n 0, 1) := by decide +kernel
theorem dX6_checkArgument_1 : decode cX6_checkArgument 1 = .ok (.ifCond .ne 13, 3) := by decide +kernel
theorem dX6_checkArgument_4 : decode cX6_checkArgument 4 = .ok (.new 198, 3) := by decide +kernel
theorem dX6_checkArgument_7 : decode cX6_checkArgument 7 = .ok (.dup, 1) := by decide +kernel
theorem dX6_checkArgument_8 : decode cX6_checkArgument 8 = .ok (.ldc 200, 2) := by decide +kernel
theorem dX6_checkArgument_10 : decode cX6_checkArgument 10 = .ok (.invokespecial 202, 3) := by decide +kernel
theorem dX6_checkArgument_13 : decode cX6_checkArgument 13 = .ok (.athrow, 1) := by decide +kernel
theorem dX6_checkArgument_14 : decode cX6_checkArgument 14 = .ok (.return_, 1) := by decide +kernel
theorem dX6_checkState_0 : decode cX6_checkState 0 = .ok (.iload_n 0, 1) := by decide +kernel
theorem dX6_checkState_1 : decode cX6_checkState 1 = .ok (.ifCond .ne 13, 3) := by decide +kernel
theorem dX6_checkState_4 : decode cX6_checkState 4 = .ok (.new 203, 3) := by decide +kernel
theorem dX6_checkState_7 : decode cX6_checkState 7 = .ok (.dup, 1) := by decide +kernel
theorem dX6_checkState_8 : decode cX6_checkState 8 = .ok (.ldc 205, 2) := by decide +kernel
theorem dX6_checkState_10 : decode cX6_checkState 10 = .ok (.invokespecial 207, 3) := by decide +kernel
theorem dX6_checkState_13 : decode cX6_checkState 13 = .ok (.athrow, 1) := by decide +kernel
theorem dX6_checkState_14 : decode cX6_checkState 14 = .ok (.return_, 1) := by decide +kernel
theorem dX6_sortUp_0 : decode cX6_sortUp 0 = .ok (.iconst 1, 1) := by decide +kernel
theorem dX6_sortUp_1 : decode cX6_sortUp 1 = .ok (.istore_n 2, 1) := by decide +kernel
theorem dX6_sortUp_2 : decode cX6_sortUp 2 = .ok (.iload_n 2, 1) := by decide +kernel
theorem dX6_sortUp_3 : decode cX6_sortUp 3 = .ok (.iload_n 1, 1) := by decide +kernel
theorem dX6_sortUp_4 : decode cX6_sortUp 4 = .ok (.if_icmp .ge 52, 3) := by decide +kernel
theorem dX6_sortUp_7 : decode cX6_sortUp 7 = .ok (.aload_n 0, 1) := by decide +kernel
theorem dX6_sortUp_8 : decode cX6_sortUp 8 = .ok (.iload_n 2, 1) := by decide +kernel
theorem dX6_sortUp_9 : decode cX6_sortUp 9 = .ok (.iaload, 1) := by decide +kernel
theorem dX6_sortUp_10 : decode cX6_sortUp 10 = .ok (.istore_n 3, 1) := by decide +kernel
theorem dX6_sortUp_11 : decode cX6_sortUp 11 = .ok (.iload_n 2, 1) := by decide +kernel
theorem dX6_sortUp_12 : decode cX6_sortUp 12 = .ok (.istore 4, 2) := by decide +kernel
theorem dX6_sortUp_14 : decode cX6_sortUp 14 = .ok (.iload 4, 2) := by decide +kernel
theorem dX6_sortUp_16 : decode cX6_sortUp 16 = .ok (.ifCond .le 29, 3) := by decide +kernel
theorem dX6_sortUp_19 : decode cX6_sortUp 19 = .ok (.aload_n 0, 1) := by decide +kernel
theorem dX6_sortUp_20 : decode cX6_sortUp 20 = .ok (.iload 4, 2) := by decide +kernel
theorem dX6_sortUp_22 : decode cX6_sortUp 22 = .ok (.iconst 1, 1) := by decide +kernel
theorem dX6_sortUp_23 : decode cX6_sortUp 23 = .ok (.isub, 1) := by decide +kernel
theorem dX6_sortUp_24 : decode cX6_sortUp 24 = .ok (.iaload, 1) := by decide +kernel
theorem dX6_sortUp_25 : decode cX6_sortUp 25 = .ok (.iload_n 3, 1) := by decide +kernel
theorem dX6_sortUp_26 : decode cX6_sortUp 26 = .ok (.if_icmp .le 19, 3) := by decide +kernel
theorem dX6_sortUp_29 : decode cX6_sortUp 29 = .ok (.aload_n 0, 1) := by decide +kernel
theorem dX6_sortUp_30 : decode cX6_sortUp 30 = .ok (.iload 4, 2) := by decide +kernel
theorem dX6_sortUp_32 : decode cX6_sortUp 32 = .ok (.aload_n 0, 1) := by decide +kernel
theorem dX6_sortUp_33 : decode cX6_sortUp 33 = .ok (.iload 4, 2) := by decide +kernel
theorem dX6_sortUp_35 : decode cX6_sortUp 35 = .ok (.iconst 1, 1) := by decide +kernel
theorem dX6_sortUp_36 : decode cX6_sortUp 36 = .ok (.isub, 1) := by decide +kernel
theorem dX6_sortUp_37 : decode cX6_sortUp 37 = .ok (.iaload, 1) := by decide +kernel
theorem dX6_sortUp_38 : decode cX6_sortUp 38 = .ok (.iastore, 1) := by decide +kernel
theorem dX6_sortUp_39 : decode cX6_sortUp 39 = .ok (.iinc 4 (-1), 3) := by decide +kernel
theorem dX6_sortUp_42 : decode cX6_sortUp 42 = .ok (.goto (-28), 3) := by decide +kernel
theorem dX6_sortUp_45 : decode cX6_sortUp 45 = .ok (.aload_n 0, 1) := by decide +kernel
theorem dX6_sortUp_46 : decode cX6_sortUp 46 = .ok (.iload 4, 2) := by decide +kernel
theorem dX6_sortUp_48 : decode cX6_sortUp 48 = .ok (.iload_n 3, 1) := by decide +kernel
theorem dX6_sortUp_49 : decode cX6_sortUp 49 = .ok (.iastore, 1) := by decide +kernel
theorem dX6_sortUp_50 : decode cX6_sortUp 50 = .ok (.iinc 2 1, 3) := by decide +kernel
theorem dX6_sortUp_53 : decode cX6_sortUp 53 = .ok (.goto (-51), 3) := by decide +kernel
theorem dX6_sortUp_56 : decode cX6_sortUp 56 = .ok (.return_, 1) := by decide +kernel
