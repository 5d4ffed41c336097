theorem dL_come_0 : decode cL_come 0 = .ok (.aload_n 2, 1) := by decide +kernel
theorem dL_come_1 : decode cL_come 1 = .ok (.iconst 0, 1) := by decide +kernel
theorem dL_come_2 : decode cL_come 2 = .ok (.aload_n 0, 1) := by decide +kernel
theorem dL_come_3 : decode cL_come 3 = .ok (.iload_n 1, 1) := by decide +kernel
theorem dL_come_4 : decode cL_come 4 = .ok (.invokevirtual 7, 3) := by decide +kernel
theorem dL_come_7 : decode cL_come 7 = .ok (.i2l, 1) := by decide +kernel
theorem dL_come_8 : decode cL_come 8 = .ok (.lastore, 1) := by decide +kernel
theorem dL_come_9 : decode cL_come 9 = .ok (.goto 9, 3) := by decide +kernel
theorem dL_come_12 : decode cL_come 12 = .ok (.astore_n 3, 1) := by decide +kernel
theorem dL_come_13 : decode cL_come 13 = .ok (.iconst 1, 1) := by decide +kernel
theorem dL_come_14 : decode cL_come 14 = .ok (.ireturn, 1) := by decide +kernel
theorem dL_come_15 : decode cL_come 15 = .ok (.astore_n 3, 1) := by decide +kernel
theorem dL_come_16 : decode cL_come 16 = .ok (.iconst 2, 1) := by decide +kernel
theorem dL_come_17 : decode cL_come 17 = .ok (.ireturn, 1) := by decide +kernel
theorem dL_come_18 : decode cL_come 18 = .ok (.iconst 0, 1) := by decide +kernel
theorem dL_come_19 : decode cL_come 19 = .ok (.ireturn, 1) := by decide +kernel
theorem dL_earn_0 : decode cL_earn 0 = .ok (.aload_n 3, 1) := by decide +kernel
theorem dL_earn_1 : decode cL_earn 1 = .ok (.iconst 0, 1) := by decide +kernel
theorem dL_earn_2 : decode cL_earn 2 = .ok (.aload_n 0, 1) := by decide +kernel
theorem dL_earn_3 : decode cL_earn 3 = .ok (.iload_n 1, 1) := by decide +kernel
theorem dL_earn_4 : decode cL_earn 4 = .ok (.iload_n 2, 1) := by decide +kernel
theorem dL_earn_5 : decode cL_earn 5 = .ok (.invokevirtual 17, 3) := by decide +kernel
theorem dL_earn_8 : decode cL_earn 8 = .ok (.i2l, 1) := by decide +kernel
theorem dL_earn_9 : decode cL_earn 9 = .ok (.lastore, 1) := by decide +kernel
theorem dL_earn_10 : decode cL_earn 10 = .ok (.goto 11, 3) := by decide +kernel
theorem dL_earn_13 : decode cL_earn 13 = .ok (.astore 4, 2) := by decide +kernel
theorem dL_earn_15 : decode cL_earn 15 = .ok (.iconst 1, 1) := by decide +kernel
theorem dL_earn_16 : decode cL_earn 16 = .ok (.ireturn, 1) := by decide +kernel
theorem dL_earn_17 : decode cL_earn 17 = .ok (.astore 4, 2) := by decide +kernel
theorem dL_earn_19 : decode cL_earn 19 = .ok (.iconst 2, 1) := by decide +kernel
theorem dL_earn_20 : decode cL_earn 20 = .ok (.ireturn, 1) := by decide +kernel
theorem dL_earn_21 : decode cL_earn 21 = .ok (.iconst 0, 1) := by decide +kernel
theorem dL_earn_22 : decode cL_earn 22 = .ok (.ireturn, 1) := by decide +kernel
theorem dL_setBuyer_0 : decode cL_setBuyer 0 = .ok (.aload 4, 2) := by decide +kernel
theorem dL_setBuyer_2 : decode cL_setBuyer 2 = .ok (.iconst 0, 1) := by decide +kernel
theorem dL_setBuyer_3 : decode cL_setBuyer 3 = .ok (.aload_n 0, 1) := by decide +kernel
theorem dL_setBuyer_4 : decode cL_setBuyer 4 = .ok (.iload_n 1, 1) := by decide +kernel
theorem dL_setBuyer_5 : decode cL_setBuyer 5 = .ok (.iload_n 2, 1) := by decide +kernel
theorem dL_setBuyer_6 : decode cL_setBuyer 6 = .ok (.iload_n 3, 1) := by decide +kernel
theorem dL_setBuyer_7 : decode cL_setBuyer 7 = .ok (.invokevirtual 23, 3) := by decide +kernel
theorem dL_setBuyer_10 : decode cL_setBuyer 10 = .ok (.i2l, 1) := by decide +kernel
theorem dL_setBuyer_11 : decode cL_setBuyer 11 = .ok (.lastore, 1) := by decide +kernel
theorem dL_setBuyer_12 : decode cL_setBuyer 12 = .ok (.goto 11, 3) := by decide +kernel
theorem dL_setBuyer_15 : decode cL_setBuyer 15 = .ok (.astore 5, 2) := by decide +kernel
theorem dL_setBuyer_17 : decode cL_setBuyer 17 = .ok (.iconst 1, 1) := by decide +kernel
theorem dL_setBuyer_18 : decode cL_setBuyer 18 = .ok (.ireturn, 1) := by decide +kernel
theorem dL_setBuyer_19 : decode cL_setBuyer 19 = .ok (.astore 5, 2) := by decide +kernel
theorem dL_setBuyer_21 : decode cL_setBuyer 21 = .ok (.iconst 2, 1) := by decide +kernel
theorem dL_setBuyer_22 : decode cL_setBuyer 22 = .ok (.ireturn, 1) := by decide +kernel
theorem dL_setBuyer_23 : decode cL_setBuyer 23 = .ok (.iconst 0, 1) := by decide +kernel
theorem dL_setBuyer_24 : decode cL_setBuyer 24 = .ok (.ireturn, 1) := by decide +kernel
theorem dL_customer_0 : decode cL_customer 0 = .ok (.aload_n 3, 1) := by decide +kernel
theorem dL_customer_1 : decode cL_customer 1 = .ok (.iconst 0, 1) := by decide +kernel
theorem dL_customer_2 : decode cL_customer 2 = .ok (.aload_n 0, 1) := by decide +kernel
theorem dL_customer_3 : decode cL_customer 3 = .ok (.iload_n 1, 1) := by decide +kernel
theorem dL_customer_4 : decode cL_customer 4 = .ok (.iload_n 2, 1) := by decide +kernel
theorem dL_customer_5 : decode cL_customer 5 = .ok (.invokevirtual 27, 3) := by decide +kernel
theorem dL_customer_8 : decode cL_customer 8 = .ok (.i2l, 1) := by decide +kernel
theorem dL_customer_9 : decode cL_customer 9 = .ok (.lastore, 1) := by decide +kernel
theorem dL_customer_10 : decode cL_customer 10 = .ok (.goto 7, 3) := by decide +kernel
theorem dL_customer_13 : decode cL_customer 13 = .ok (.astore 4, 2) := by decide +kernel
theorem dL_customer_15 : decode cL_customer 15 = .ok (.iconst 1, 1) := by decide +kernel
theorem dL_customer_16 : decode cL_customer 16 = .ok (.ireturn, 1) := by decide +kernel
theorem dL_customer_17 : decode cL_customer 17 = .ok (.iconst 0, 1) := by decide +kernel
theorem dL_customer_18 : decode cL_customer 18 = .ok (.ireturn, 1) := by decide +kernel
theorem dL_pledge_0 : decode cL_pledge 0 = .ok (.aload 5, 2) := by decide +kernel
theorem dL_pledge_2 : decode cL_pledge 2 = .ok (.iconst 0, 1) := by decide +kernel
theorem dL_pledge_3 : decode cL_pledge 3 = .ok (.aload_n 0, 1) := by decide +kernel
theorem dL_pledge_4 : decode cL_pledge 4 = .ok (.iload_n 1, 1) := by decide +kernel
theorem dL_pledge_5 : decode cL_pledge 5 = .ok (.iload_n 2, 1) := by decide +kernel
theorem dL_pledge_6 : decode cL_pledge 6 = .ok (.iload_n 3, 1) := by decide +kernel
theorem dL_pledge_7 : decode cL_pledge 7 = .ok (.iload 4, 2) := by decide +kernel
theorem dL_pledge_9 : decode cL_pledge 9 = .ok (.invokevirtual 30, 3) := by decide +kernel
theorem dL_pledge_12 : decode cL_pledge 12 = .ok (.i2l, 1) := by decide +kernel
theorem dL_pledge_13 : decode cL_pledge 13 = .ok (.lastore, 1) := by decide +kernel
theorem dL_pledge_14 : decode cL_pledge 14 = .ok (.goto 15, 3) := by decide +kernel
theorem dL_pledge_17 : decode cL_pledge 17 = .ok (.astore 6, 2) := by decide +kernel
theorem dL_pledge_19 : decode cL_pledge 19 = .ok (.iconst 1, 1) := by decide +kernel
theorem dL_pledge_20 : decode cL_pledge 20 = .ok (.ireturn, 1) := by decide +kernel
theorem dL_pledge_21 : decode cL_pledge 21 = .ok (.astore 6, 2) := by decide +kernel
theorem dL_pledge_23 : decode cL_pledge 23 = .ok (.iconst 2, 1) := by decide +kernel
theorem dL_pledge_24 : decode cL_pledge 24 = .ok (.ireturn, 1) := by decide +kernel
theorem dL_pledge_25 : decode cL_pledge 25 = .ok (.astore 6, 2) := by decide +kernel
theorem dL_pledge_27 : decode cL_pledge 27 = .ok (.iconst 3, 1) := by decide +kernel
theorem dL_pledge_28 : decode cL_pledge 28 = .ok (.ireturn, 1) := by decide +kernel
theorem dL_pledge_29 : decode cL_pledge 29 = .ok (.iconst 0, 1) := by decide +kernel
theorem dL_pledge_30 : decode cL_pledge 30 = .ok (.ireturn, 1) := by decide +kernel
theorem dL_ticket_0 : decode cL_ticket 0 = .ok (.aload_n 3, 1) := by decide +kernel
theorem dL_ticket_1 : decode cL_ticket 1 = .ok (.iconst 0, 1) := by decide +kernel
theorem dL_ticket_2 : decode cL_ticket 2 = .ok (.aload_n 0, 1) := by decide +kernel
theorem dL_ticket_3 : decode cL_ticket 3 = .ok (.iload_n 1, 1) := by decide +kernel
theorem dL_ticket_4 : decode cL_ticket 4 = .ok (.iload_n 2, 1) := by decide +kernel
theorem dL_ticket_5 : decode cL_ticket 5 = .ok (.invokevirtual 34, 3) := by decide +kernel
theorem dL_ticket_8 : decode cL_ticket 8 = .ok (.i2l, 1) := by decide +kernel
theorem dL_ticket_9 : decode cL_ticket 9 = .ok (.lastore, 1) := by decide +kernel
theorem dL_ticket_10 : decode cL_ticket 10 = .ok (.goto 7, 3) := by decide +kernel
theorem dL_ticket_13 : decode cL_ticket 13 = .ok (.astore 4, 2) := by decide +kernel
theorem dL_ticket_15 : decode cL_ticket 15 = .ok (.iconst 1, 1) := by decide +kernel
theorem dL_ticket_16 : decode cL_ticket 16 = .ok (.ireturn, 1) := by decide +kernel
theorem dL_ticket_17 : decode cL_ticket 17 = .ok (.iconst 0, 1) := by decide +kernel
theorem dL_ticket_18 : decode cL_ticket 18 = .ok (.ireturn, 1) := by decide +kernel
theorem dL_owes_0 : decode cL_owes 0 = .ok (.aload_n 2, 1) := by decide +kernel
theorem dL_owes_1 : decode cL_owes 1 = .ok (.iconst 0, 1) := by decide +kernel
theorem dL_owes_2 : decode cL_owes 2 = .ok (.aload_n 0, 1) := by decide +kernel
theorem dL_owes_3 : decode cL_owes 3 = .ok (.iload_n 1, 1) := by decide +kernel
theorem dL_owes_4 : decode cL_owes 4 = .ok (.invokevirtual 37, 3) := by decide +kernel
theorem dL_owes_7 : decode cL_owes 7 = .ok (.i2l, 1) := by decide +kernel
theorem dL_owes_8 : decode cL_owes 8 = .ok (.lastore, 1) := by decide +kernel
theorem dL_owes_9 : decode cL_owes 9 = .ok (.goto 6, 3) := by decide +kernel
theorem dL_owes_12 : decode cL_owes 12 = .ok (.astore_n 3, 1) := by decide +kernel
theorem dL_owes_13 : decode cL_owes 13 = .ok (.iconst 1, 1) := by decide +kernel
theorem dL_owes_14 : decode cL_owes 14 = .ok (.ireturn, 1) := by decide +kernel
theorem dL_owes_15 : decode cL_owes 15 = .ok (.iconst 0, 1) := by decide +kernel
theorem dL_owes_16 : decode cL_owes 16 = .ok (.ireturn, 1) := by decide +kernel
theorem dL_renew_0 : decode cL_renew 0 = .ok (.aload_n 2, 1) := by decide +kernel
theorem dL_renew_1 : decode cL_renew 1 = .ok (.iconst 0, 1) := by decide +kernel
theorem dL_renew_2 : decode cL_renew 2 = .ok (.aload_n 0, 1) := by decide +kernel
theorem dL_renew_3 : decode cL_renew 3 = .ok (.iload_n 1, 1) := by decide +kernel
theorem dL_renew_4 : decode cL_renew 4 = .ok (.invokevirtual 40, 3) := by decide +kernel
theorem dL_renew_7 : decode cL_renew 7 = .ok (.i2l, 1) := by decide +kernel
theorem dL_renew_8 : decode cL_renew 8 = .ok (.lastore, 1) := by decide +kernel
theorem dL_renew_9 : decode cL_renew 9 = .ok (.goto 9, 3) := by decide +kernel
theorem dL_renew_12 : decode cL_renew 12 = .ok (.astore_n 3, 1) := by decide +kernel
theorem dL_renew_13 : decode cL_renew 13 = .ok (.iconst 1, 1) := by decide +kernel
theorem dL_renew_14 : decode cL_renew 14 = .ok (.ireturn, 1) := by decide +kernel
theorem dL_renew_15 : decode cL_renew 15 = .ok (.astore_n 3, 1) := by decide +kernel
theorem dL_renew_16 : decode cL_renew 16 = .ok (.iconst 2, 1) := by decide +kernel
theorem dL_renew_17 : decode cL_renew 17 = .ok (.ireturn, 1) := by decide +kernel
theorem dL_renew_18 : decode cL_renew 18 = .ok (.iconst 0, 1) := by decide +kernel
theorem dL_renew_19 : decode cL_renew 19 = .ok (.ireturn, 1) := by decide +kernel
theorem dL_fetch_0 : decode cL_fetch 0 = .ok (.aload_n 2, 1) := by decide +kernel
theorem dL_fetch_1 : decode cL_fetch 1 = .ok (.iconst 0, 1) := by decide +kernel
theorem dL_fetch_2 : decode cL_fetch 2 = .ok (.aload_n 0, 1) := by decide +kernel
theorem dL_fetch_3 : decode cL_fetch 3 = .ok (.iload_n 1, 1) := by decide +kernel
theorem dL_fetch_4 : decode cL_fetch 4 = .ok (.invokevirtual 43, 3) := by decide +kernel
theorem dL_fetch_7 : decode cL_fetch 7 = .ok (.i2l, 1) := by decide +kernel
theorem dL_fetch_8 : decode cL_fetch 8 = .ok (.lastore, 1) := by decide +kernel
theorem dL_fetch_9 : decode cL_fetch 9 = .ok (.goto 9, 3) := by decide +kernel
theorem dL_fetch_12 : decode cL_fetch 12 = .ok (.astore_n 3, 1) := by decide +kernel
theorem dL_fetch_13 : decode cL_fetch 13 = .ok (.iconst 1, 1) := by decide +kernel
theorem dL_fetch_14 : decode cL_fetch 14 = .ok (.ireturn, 1) := by decide +kernel
theorem dL_fetch_15 : decode cL_fetch 15 = .ok (.astore_n 3, 1) := by decide +kernel
theorem dL_fetch_16 : decode cL_fetch 16 = .ok (.iconst 2, 1) := by decide +kernel
theorem dL_fetch_17 : decode cL_fetch 17 = .ok (.ireturn, 1) := by decide +kernel
theorem dL_fetch_18 : decode cL_fetch 18 = .ok (.iconst 0, 1) := by decide +kernel
theorem dL_fetch_19 : decode cL_fetch 19 = .ok (.ireturn, 1) := by decide +kernel
theorem dL_at_0 : decode cL_at 0 = .ok (.aload_n 3, 1) := by decide +kernel
theorem dL_at_1 : decode cL_at 1 = .ok (.iconst 0, 1) := by decide +kernel
theorem dL_at_2 : decode cL_at 2 = .ok (.aload_n 0, 1) := by decide +kernel
theorem dL_at_3 : decode cL_at 3 = .ok (.iload_n 1, 1) := by decide +kernel
theorem dL_at_4 : decode cL_at 4 = .ok (.iload_n 2, 1) := by decide +kernel
theorem dL_at_5 : decode cL_at 5 = .ok (.invokevirtual 46, 3) := by decide +kernel
theorem dL_at_8 : decode cL_at 8 = .ok (.i2l, 1) := by decide +kernel
theorem dL_at_9 : decode cL_at 9 = .ok (.lastore, 1) := by decide +kernel
theorem dL_at_10 : decode cL_at 10 = .ok (.goto 7, 3) := by decide +kernel
theorem dL_at_13 : decode cL_at 13 = .ok (.astore 4, 2) := by decide +kernel
theorem dL_at_15 : decode cL_at 15 = .ok (.iconst 1, 1) := by decide +kernel
theorem dL_at_16 : decode cL_at 16 = .ok (.ireturn, 1) := by decide +kernel
theorem dL_at_17 : decode cL_at 17 = .ok (.iconst 0, 1) := by decide +kernel
theorem dL_at_18 : decode cL_at 18 = .ok (.ireturn, 1) := by decide +kernel
theorem dL_room_0 : decode cL_room 0 = .ok (.aload_n 2, 1) := by decide +kernel
theorem dL_room_1 : decode cL_room 1 = .ok (.iconst 0, 1) := by decide +kernel
theorem dL_room_2 : decode cL_room 2 = .ok (.aload_n 0, 1) := by decide +kernel
theorem dL_room_3 : decode cL_room 3 = .ok (.iload_n 1, 1) := by decide +kernel
theorem dL_room_4 : decode cL_room 4 = .ok (.invokevirtual 49, 3) := by decide +kernel
theorem dL_room_7 : decode cL_room 7 = .ok (.i2l, 1) := by decide +kernel
theorem dL_room_8 : decode cL_room 8 = .ok (.lastore, 1) := by decide +kernel
theorem dL_room_9 : decode cL_room 9 = .ok (.goto 6, 3) := by decide +kernel
theorem dL_room_12 : decode cL_room 12 = .ok (.astore_n 3, 1) := by decide +kernel
theorem dL_room_13 : decode cL_room 13 = .ok (.iconst 1, 1) := by decide +kernel
theorem dL_room_14 : decode cL_room 14 = .ok (.ireturn, 1) := by decide +kernel
theorem dL_room_15 : decode cL_room 15 = .ok (.iconst 0, 1) := by decide +kernel
theorem dL_room_16 : decode cL_room 16 = .ok (.ireturn, 1) := by decide +kernel
theorem dL_pass_0 : decode cL_pass 0 = .ok (.aload_n 2, 1) := by decide +kernel
theorem dL_pass_1 : decode cL_pass 1 = .ok (.iconst 0, 1) := by decide +kernel
theorem dL_pass_2 : decode cL_pass 2 = .ok (.aload_n 0, 1) := by decide +kernel
theorem dL_pass_3 : decode cL_pass 3 = .ok (.iload_n 1, 1) := by decide +kernel
theorem dL_pass_4 : decode cL_pass 4 = .ok (.invokevirtual 52, 3) := by decide +kernel
theorem dL_pass_7 : decode cL_pass 7 = .ok (.i2l, 1) := by decide +kernel
theorem dL_pass_8 : decode cL_pass 8 = .ok (.lastore, 1) := by decide +kernel
theorem dL_pass_9 : decode cL_pass 9 = .ok (.goto 6, 3) := by decide +kernel
theorem dL_pass_12 : decode cL_pass 12 = .ok (.astore_n 3, 1) := by decide +kernel
theorem dL_pass_13 : decode cL_pass 13 = .ok (.iconst 1, 1) := by decide +kernel
theorem dL_pass_14 : decode cL_pass 14 = .ok (.ireturn, 1) := by decide +kernel
theorem dL_pass_15 : decode cL_pass 15 = .ok (.iconst 0, 1) := by decide +kernel
theorem dL_pass_16 : decode cL_pass 16 = .ok (.ireturn, 1) := by decide +kernel
theorem dL_count_0 : decode cL_count 0 = .ok (.aload_n 2, 1) := by decide +kernel
theorem dL_count_1 : decode cL_count 1 = .ok (.iconst 0, 1) := by decide +kernel
theorem dL_count_2 : decode cL_count 2 = .ok (.aload_n 0, 1) := by decide +kernel
theorem dL_count_3 : decode cL_count 3 = .ok (.iload_n 1, 1) := by decide +kernel
theorem dL_count_4 : decode cL_count 4 = .ok (.invokevirtual 55, 3) := by decide +kernel
theorem dL_count_7 : decode cL_count 7 = .ok (.i2l, 1) := by decide +kernel
theorem dL_count_8 : decode cL_count 8 = .ok (.lastore, 1) := by decide +kernel
theorem dL_count_9 : decode cL_count 9 = .ok (.goto 6, 3) := by decide +kernel
theorem dL_count_12 : decode cL_count 12 = .ok (.astore_n 3, 1) := by decide +kernel
theorem dL_count_13 : decode cL_count 13 = .ok (.iconst 1, 1) := by decide +kernel
theorem dL_count_14 : decode cL_count 14 = .ok (.ireturn, 1) := by decide +kernel
theorem dL_count_15 : decode cL_count 15 = .ok (.iconst 0, 1) := by decide +kernel
theorem dL_count_16 : decode cL_count 16 = .ok (.ireturn, 1) := by decide +kernel
theorem dL_foresee_0 : decode cL_foresee 0 = .ok (.aload_n 3, 1) := by decide +kernel
theorem dL_foresee_1 : decode cL_foresee 1 = .ok (.iconst 0, 1) := by decide +kernel
theorem dL_foresee_2 : decode cL_foresee 2 = .ok (.aload_n 0, 1) := by decide +kernel
theorem dL_foresee_3 : decode cL_foresee 3 = .ok (.iload_n 1, 1) := by decide +kernel
theorem dL_foresee_4 : decode cL_foresee 4 = .ok (.iload_n 2, 1) := by decide +kernel
theorem dL_foresee_5 : decode cL_foresee 5 = .ok (.invokevirtual 58, 3) := by decide +kernel
theorem dL_foresee_8 : decode cL_foresee 8 = .ok (.i2l, 1) := by decide +kernel
theorem dL_foresee_9 : decode cL_foresee 9 = .ok (.lastore, 1) := by decide +kernel
theorem dL_foresee_10 : decode cL_foresee 10 = .ok (.goto 11, 3) := by decide +kernel
theorem dL_foresee_13 : decode cL_foresee 13 = .ok (.astore 4, 2) := by decide +kernel
theorem dL_foresee_15 : decode cL_foresee 15 = .ok (.iconst 1, 1) := by decide +kernel
theorem dL_foresee_16 : decode cL_foresee 16 = .ok (.ireturn, 1) := by decide +kernel
theorem dL_foresee_17 : decode cL_foresee 17 = .ok (.astore 4, 2) := by decide +kernel
theorem dL_foresee_19 : decode cL_foresee 19 = .ok (.iconst 2, 1) := by decide +kernel
theorem dL_foresee_20 : decode cL_foresee 20 = .ok (.ireturn, 1) := by decide +kernel
theorem dL_foresee_21 : decode cL_foresee 21 = .ok (.iconst 0, 1) := by decide +kernel
theorem dL_foresee_22 : decode cL_foresee 22 = .ok (.ireturn, 1) := by decide +kernel
theorem dL_raise_0 : decode cL_raise 0 = .ok (.aload_n 2, 1) := by decide +kernel
theorem dL_raise_1 : decode cL_raise 1 = .ok (.iconst 0, 1) := by decide +kernel
theorem dL_raise_2 : decode cL_raise 2 = .ok (.aload_n 0, 1) := by decide +kernel
theorem dL_raise_3 : decode cL_raise 3 = .ok (.iload_n 1, 1) := by decide +kernel
theorem dL_raise_4 : decode cL_raise 4 = .ok (.invokevirtual 61, 3) := by decide +kernel
theorem dL_raise_7 : decode cL_raise 7 = .ok (.i2l, 1) := by decide +kernel
theorem dL_raise_8 : decode cL_raise 8 = .ok (.lastore, 1) := by decide +kernel
theorem dL_raise_9 : decode cL_raise 9 = .ok (.goto 6, 3) := by decide +kernel
theorem dL_raise_12 : decode cL_raise 12 = .ok (.astore_n 3, 1) := by decide +kernel
theorem dL_raise_13 : decode cL_raise 13 = .ok (.iconst 1, 1) := by decide +kernel
theorem dL_raise_14 : decode cL_raise 14 = .ok (.ireturn, 1) := by decide +kernel
theorem dL_raise_15 : decode cL_raise 15 = .ok (.iconst 0, 1) := by decide +kernel
theorem dL_raise_16 : decode cL_raise 16 = .ok (.ireturn, 1) := by decide +kernel
theorem dL_best_0 : decode cL_best 0 = .ok (.aload_n 2, 1) := by decide +kernel
theorem dL_best_1 : decode cL_best 1 = .ok (.iconst 0, 1) := by decide +kernel
theorem dL_best_2 : decode cL_best 2 = .ok (.aload_n 0, 1) := by decide +kernel
theorem dL_best_3 : decode cL_best 3 = .ok (.iload_n 1, 1) := by decide +kernel
theorem dL_best_4 : decode cL_best 4 = .ok (.invokevirtual 64, 3) := by decide +kernel
theorem dL_best_7 : decode cL_best 7 = .ok (.i2l, 1) := by decide +kernel
theorem dL_best_8 : decode cL_best 8 = .ok (.lastore, 1) := by decide +kernel
theorem dL_best_9 : decode cL_best 9 = .ok (.goto 6, 3) := by decide +kernel
theorem dL_best_12 : decode cL_best 12 = .ok (.astore_n 3, 1) := by decide +kernel
theorem dL_best_13 : decode cL_best 13 = .ok (.iconst 1, 1) := by decide +kernel
theorem dL_best_14 : decode cL_best 14 = .ok (.ireturn, 1) := by decide +kernel
theorem dL_best_15 : decode cL_best 15 = .ok (.iconst 0, 1) := by decide +kernel
theorem dL_best_16 : decode cL_best 16 = .ok (.ireturn, 1) := by decide +kernel
theorem dL_most_0 : decode cL_most 0 = .ok (.aload_n 2, 1) := by decide +kernel
theorem dL_most_1 : decode cL_most 1 = .ok (.iconst 0, 1) := by decide +kernel
theorem dL_most_2 : decode cL_most 2 = .ok (.aload_n 0, 1) := by decide +kernel
theorem dL_most_3 : decode cL_most 3 = .ok (.iload_n 1, 1) := by decide +kernel
theorem dL_most_4 : decode cL_most 4 = .ok (.invokevirtual 67, 3) := by decide +kernel
theorem dL_most_7 : decode cL_most 7 = .ok (.i2l, 1) := by decide +kernel
theorem dL_most_8 : decode cL_most 8 = .ok (.lastore, 1) := by decide +kernel
theorem dL_most_9 : decode cL_most 9 = .ok (.goto 6, 3) := by decide +kernel
theorem dL_most_12 : decode cL_most 12 = .ok (.astore_n 3, 1) := by decide +kernel
theorem dL_most_13 : decode cL_most 13 = .ok (.iconst 1, 1) := by decide +kernel
theorem dL_most_14 : decode cL_most 14 = .ok (.ireturn, 1) := by decide +kernel
theorem dL_most_15 : decode cL_most 15 = .ok (.iconst 0, 1) := by decide +kernel
theorem dL_most_16 : decode cL_most 16 = .ok (.ireturn, 1) := by decide +kernel
