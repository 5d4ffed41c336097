theorem dX4_init_0 : decode cX4_init 0 = .ok (.aload_n 0, 1) := by decide +kernel
theorem dX4_init_1 : decode cX4_init 1 = .ok (.invokespecial 3, 3) := by decide +kernel
theorem dX4_init_4 : decode cX4_init 4 = .ok (.aload_n 0, 1) := by decide +kernel
theorem dX4_init_5 : decode cX4_init 5 = .ok (.sipush 400, 3) := by decide +kernel
theorem dX4_init_8 : decode cX4_init 8 = .ok (.putfield 11, 3) := by decide +kernel
theorem dX4_init_11 : decode cX4_init 11 = .ok (.aload_n 0, 1) := by decide +kernel
theorem dX4_init_12 : decode cX4_init 12 = .ok (.bipush 10, 2) := by decide +kernel
theorem dX4_init_14 : decode cX4_init 14 = .ok (.anewarray 15, 3) := by decide +kernel
theorem dX4_init_17 : decode cX4_init 17 = .ok (.putfield 17, 3) := by decide +kernel
theorem dX4_init_20 : decode cX4_init 20 = .ok (.aload_n 0, 1) := by decide +kernel
theorem dX4_init_21 : decode cX4_init 21 = .ok (.bipush 40, 2) := by decide +kernel
theorem dX4_init_23 : decode cX4_init 23 = .ok (.anewarray 21, 3) := by decide +kernel
theorem dX4_init_26 : decode cX4_init 26 = .ok (.putfield 23, 3) := by decide +kernel
theorem dX4_init_29 : decode cX4_init 29 = .ok (.aload_n 0, 1) := by decide +kernel
theorem dX4_init_30 : decode cX4_init 30 = .ok (.bipush 7, 2) := by decide +kernel
theorem dX4_init_32 : decode cX4_init 32 = .ok (.anewarray 27, 3) := by decide +kernel
theorem dX4_init_35 : decode cX4_init 35 = .ok (.putfield 29, 3) := by decide +kernel
theorem dX4_init_38 : decode cX4_init 38 = .ok (.aload_n 0, 1) := by decide +kernel
theorem dX4_init_39 : decode cX4_init 39 = .ok (.new 33, 3) := by decide +kernel
theorem dX4_init_42 : decode cX4_init 42 = .ok (.dup, 1) := by decide +kernel
theorem dX4_init_43 : decode cX4_init 43 = .ok (.invokespecial 35, 3) := by decide +kernel
theorem dX4_init_46 : decode cX4_init 46 = .ok (.putfield 36, 3) := by decide +kernel
theorem dX4_init_49 : decode cX4_init 49 = .ok (.iconst 0, 1) := by decide +kernel
theorem dX4_init_50 : decode cX4_init 50 = .ok (.istore_n 1, 1) := by decide +kernel
theorem dX4_init_51 : decode cX4_init 51 = .ok (.iload_n 1, 1) := by decide +kernel
theorem dX4_init_52 : decode cX4_init 52 = .ok (.bipush 10, 2) := by decide +kernel
theorem dX4_init_54 : decode cX4_init 54 = .ok (.if_icmp .ge 22, 3) := by decide +kernel
theorem dX4_init_57 : decode cX4_init 57 = .ok (.aload_n 0, 1) := by decide +kernel
theorem dX4_init_58 : decode cX4_init 58 = .ok (.getfield 17, 3) := by decide +kernel
theorem dX4_init_61 : decode cX4_init 61 = .ok (.iload_n 1, 1) := by decide +kernel
theorem dX4_init_62 : decode cX4_init 62 = .ok (.new 15, 3) := by decide +kernel
theorem dX4_init_65 : decode cX4_init 65 = .ok (.dup, 1) := by decide +kernel
theorem dX4_init_66 : decode cX4_init 66 = .ok (.invokespecial 40, 3) := by decide +kernel
theorem dX4_init_69 : decode cX4_init 69 = .ok (.aastore, 1) := by decide +kernel
theorem dX4_init_70 : decode cX4_init 70 = .ok (.iinc 1 1, 3) := by decide +kernel
theorem dX4_init_73 : decode cX4_init 73 = .ok (.goto (-22), 3) := by decide +kernel
theorem dX4_init_76 : decode cX4_init 76 = .ok (.iconst 0, 1) := by decide +kernel
theorem dX4_init_77 : decode cX4_init 77 = .ok (.istore_n 1, 1) := by decide +kernel
theorem dX4_init_78 : decode cX4_init 78 = .ok (.iload_n 1, 1) := by decide +kernel
theorem dX4_init_79 : decode cX4_init 79 = .ok (.bipush 40, 2) := by decide +kernel
theorem dX4_init_81 : decode cX4_init 81 = .ok (.if_icmp .ge 22, 3) := by decide +kernel
theorem dX4_init_84 : decode cX4_init 84 = .ok (.aload_n 0, 1) := by decide +kernel
theorem dX4_init_85 : decode cX4_init 85 = .ok (.getfield 23, 3) := by decide +kernel
theorem dX4_init_88 : decode cX4_init 88 = .ok (.iload_n 1, 1) := by decide +kernel
theorem dX4_init_89 : decode cX4_init 89 = .ok (.new 21, 3) := by decide +kernel
theorem dX4_init_92 : decode cX4_init 92 = .ok (.dup, 1) := by decide +kernel
theorem dX4_init_93 : decode cX4_init 93 = .ok (.invokespecial 41, 3) := by decide +kernel
theorem dX4_init_96 : decode cX4_init 96 = .ok (.aastore, 1) := by decide +kernel
theorem dX4_init_97 : decode cX4_init 97 = .ok (.iinc 1 1, 3) := by decide +kernel
theorem dX4_init_100 : decode cX4_init 100 = .ok (.goto (-22), 3) := by decide +kernel
theorem dX4_init_103 : decode cX4_init 103 = .ok (.iconst 0, 1) := by decide +kernel
theorem dX4_init_104 : decode cX4_init 104 = .ok (.istore_n 1, 1) := by decide +kernel
theorem dX4_init_105 : decode cX4_init 105 = .ok (.iload_n 1, 1) := by decide +kernel
theorem dX4_init_106 : decode cX4_init 106 = .ok (.bipush 7, 2) := by decide +kernel
theorem dX4_init_108 : decode cX4_init 108 = .ok (.if_icmp .ge 22, 3) := by decide +kernel
theorem dX4_init_111 : decode cX4_init 111 = .ok (.aload_n 0, 1) := by decide +kernel
theorem dX4_init_112 : decode cX4_init 112 = .ok (.getfield 29, 3) := by decide +kernel
theorem dX4_init_115 : decode cX4_init 115 = .ok (.iload_n 1, 1) := by decide +kernel
theorem dX4_init_116 : decode cX4_init 116 = .ok (.new 27, 3) := by decide +kernel
theorem dX4_init_119 : decode cX4_init 119 = .ok (.dup, 1) := by decide +kernel
theorem dX4_init_120 : decode cX4_init 120 = .ok (.invokespecial 42, 3) := by decide +kernel
theorem dX4_init_123 : decode cX4_init 123 = .ok (.aastore, 1) := by decide +kernel
theorem dX4_init_124 : decode cX4_init 124 = .ok (.iinc 1 1, 3) := by decide +kernel
theorem dX4_init_127 : decode cX4_init 127 = .ok (.goto (-22), 3) := by decide +kernel
theorem dX4_init_130 : decode cX4_init 130 = .ok (.return_, 1) := by decide +kernel
theorem dX4_hasCustomer_0 : decode cX4_hasCustomer 0 = .ok (.iload_n 1, 1) := by decide +kernel
theorem dX4_hasCustomer_1 : decode cX4_hasCustomer 1 = .ok (.iconst 0, 1) := by decide +kernel
theorem dX4_hasCustomer_2 : decode cX4_hasCustomer 2 = .ok (.aload_n 0, 1) := by decide +kernel
theorem dX4_hasCustomer_3 : decode cX4_hasCustomer 3 = .ok (.getfield 43, 3) := by decide +kernel
theorem dX4_hasCustomer_6 : decode cX4_hasCustomer 6 = .ok (.iconst 1, 1) := by decide +kernel
theorem dX4_hasCustomer_7 : decode cX4_hasCustomer 7 = .ok (.isub, 1) := by decide +kernel
theorem dX4_hasCustomer_8 : decode cX4_hasCustomer 8 = .ok (.invokestatic 46, 3) := by decide +kernel
theorem dX4_hasCustomer_11 : decode cX4_hasCustomer 11 = .ok (.ireturn, 1) := by decide +kernel
theorem dX4_hasTicket_0 : decode cX4_hasTicket 0 = .ok (.iload_n 1, 1) := by decide +kernel
theorem dX4_hasTicket_1 : decode cX4_hasTicket 1 = .ok (.iconst 0, 1) := by decide +kernel
theorem dX4_hasTicket_2 : decode cX4_hasTicket 2 = .ok (.aload_n 0, 1) := by decide +kernel
theorem dX4_hasTicket_3 : decode cX4_hasTicket 3 = .ok (.getfield 50, 3) := by decide +kernel
theorem dX4_hasTicket_6 : decode cX4_hasTicket 6 = .ok (.iconst 1, 1) := by decide +kernel
theorem dX4_hasTicket_7 : decode cX4_hasTicket 7 = .ok (.isub, 1) := by decide +kernel
theorem dX4_hasTicket_8 : decode cX4_hasTicket 8 = .ok (.invokestatic 46, 3) := by decide +kernel
theorem dX4_hasTicket_11 : decode cX4_hasTicket 11 = .ok (.ireturn, 1) := by decide +kernel
theorem dX4_addCustomer_0 : decode cX4_addCustomer 0 = .ok (.aload_n 0, 1) := by decide +kernel
theorem dX4_addCustomer_1 : decode cX4_addCustomer 1 = .ok (.getfield 43, 3) := by decide +kernel
theorem dX4_addCustomer_4 : decode cX4_addCustomer 4 = .ok (.istore_n 2, 1) := by decide +kernel
theorem dX4_addCustomer_5 : decode cX4_addCustomer 5 = .ok (.aload_n 0, 1) := by decide +kernel
theorem dX4_addCustomer_6 : decode cX4_addCustomer 6 = .ok (.getfield 17, 3) := by decide +kernel
theorem dX4_addCustomer_9 : decode cX4_addCustomer 9 = .ok (.iload_n 2, 1) := by decide +kernel
theorem dX4_addCustomer_10 : decode cX4_addCustomer 10 = .ok (.aaload, 1) := by decide +kernel
theorem dX4_addCustomer_11 : decode cX4_addCustomer 11 = .ok (.iload_n 1, 1) := by decide +kernel
theorem dX4_addCustomer_12 : decode cX4_addCustomer 12 = .ok (.invokevirtual 53, 3) := by decide +kernel
theorem dX4_addCustomer_15 : decode cX4_addCustomer 15 = .ok (.aload_n 0, 1) := by decide +kernel
theorem dX4_addCustomer_16 : decode cX4_addCustomer 16 = .ok (.dup, 1) := by decide +kernel
theorem dX4_addCustomer_17 : decode cX4_addCustomer 17 = .ok (.getfield 43, 3) := by decide +kernel
theorem dX4_addCustomer_20 : decode cX4_addCustomer 20 = .ok (.iconst 1, 1) := by decide +kernel
theorem dX4_addCustomer_21 : decode cX4_addCustomer 21 = .ok (.iadd, 1) := by decide +kernel
theorem dX4_addCustomer_22 : decode cX4_addCustomer 22 = .ok (.putfield 43, 3) := by decide +kernel
theorem dX4_addCustomer_25 : decode cX4_addCustomer 25 = .ok (.iload_n 2, 1) := by decide +kernel
theorem dX4_addCustomer_26 : decode cX4_addCustomer 26 = .ok (.ireturn, 1) := by decide +kernel
theorem dX4_addTicket_0 : decode cX4_addTicket 0 = .ok (.aload_n 0, 1) := by decide +kernel
theorem dX4_addTicket_1 : decode cX4_addTicket 1 = .ok (.getfield 50, 3) := by decide +kernel
theorem dX4_addTicket_4 : decode cX4_addTicket 4 = .ok (.istore 5, 2) := by decide +kernel
theorem dX4_addTicket_6 : decode cX4_addTicket 6 = .ok (.aload_n 0, 1) := by decide +kernel
theorem dX4_addTicket_7 : decode cX4_addTicket 7 = .ok (.getfield 17, 3) := by decide +kernel
theorem dX4_addTicket_10 : decode cX4_addTicket 10 = .ok (.iload_n 1, 1) := by decide +kernel
theorem dX4_addTicket_11 : decode cX4_addTicket 11 = .ok (.aaload, 1) := by decide +kernel
theorem dX4_addTicket_12 : decode cX4_addTicket 12 = .ok (.iload_n 3, 1) := by decide +kernel
theorem dX4_addTicket_13 : decode cX4_addTicket 13 = .ok (.invokevirtual 57, 3) := by decide +kernel
theorem dX4_addTicket_16 : decode cX4_addTicket 16 = .ok (.istore 6, 2) := by decide +kernel
theorem dX4_addTicket_18 : decode cX4_addTicket 18 = .ok (.aload_n 0, 1) := by decide +kernel
theorem dX4_addTicket_19 : decode cX4_addTicket 19 = .ok (.getfield 23, 3) := by decide +kernel
theorem dX4_addTicket_22 : decode cX4_addTicket 22 = .ok (.iload 5, 2) := by decide +kernel
theorem dX4_addTicket_24 : decode cX4_addTicket 24 = .ok (.aaload, 1) := by decide +kernel
theorem dX4_addTicket_25 : decode cX4_addTicket 25 = .ok (.iload_n 1, 1) := by decide +kernel
theorem dX4_addTicket_26 : decode cX4_addTicket 26 = .ok (.iload_n 2, 1) := by decide +kernel
theorem dX4_addTicket_27 : decode cX4_addTicket 27 = .ok (.iload_n 3, 1) := by decide +kernel
theorem dX4_addTicket_28 : decode cX4_addTicket 28 = .ok (.iload 4, 2) := by decide +kernel
theorem dX4_addTicket_30 : decode cX4_addTicket 30 = .ok (.invokevirtual 61, 3) := by decide +kernel
theorem dX4_addTicket_33 : decode cX4_addTicket 33 = .ok (.aload_n 0, 1) := by decide +kernel
theorem dX4_addTicket_34 : decode cX4_addTicket 34 = .ok (.getfield 23, 3) := by decide +kernel
theorem dX4_addTicket_37 : decode cX4_addTicket 37 = .ok (.iload 5, 2) := by decide +kernel
theorem dX4_addTicket_39 : decode cX4_addTicket 39 = .ok (.aaload, 1) := by decide +kernel
theorem dX4_addTicket_40 : decode cX4_addTicket 40 = .ok (.iload 6, 2) := by decide +kernel
theorem dX4_addTicket_42 : decode cX4_addTicket 42 = .ok (.aload_n 0, 1) := by decide +kernel
theorem dX4_addTicket_43 : decode cX4_addTicket 43 = .ok (.getfield 65, 3) := by decide +kernel
theorem dX4_addTicket_46 : decode cX4_addTicket 46 = .ok (.invokevirtual 68, 3) := by decide +kernel
theorem dX4_addTicket_49 : decode cX4_addTicket 49 = .ok (.aload_n 0, 1) := by decide +kernel
theorem dX4_addTicket_50 : decode cX4_addTicket 50 = .ok (.getfield 36, 3) := by decide +kernel
theorem dX4_addTicket_53 : decode cX4_addTicket 53 = .ok (.iload 5, 2) := by decide +kernel
theorem dX4_addTicket_55 : decode cX4_addTicket 55 = .ok (.iload 4, 2) := by decide +kernel
theorem dX4_addTicket_57 : decode cX4_addTicket 57 = .ok (.invokevirtual 72, 3) := by decide +kernel
theorem dX4_addTicket_60 : decode cX4_addTicket 60 = .ok (.aload_n 0, 1) := by decide +kernel
theorem dX4_addTicket_61 : decode cX4_addTicket 61 = .ok (.dup, 1) := by decide +kernel
theorem dX4_addTicket_62 : decode cX4_addTicket 62 = .ok (.getfield 11, 3) := by decide +kernel
theorem dX4_addTicket_65 : decode cX4_addTicket 65 = .ok (.iload 6, 2) := by decide +kernel
theorem dX4_addTicket_67 : decode cX4_addTicket 67 = .ok (.isub, 1) := by decide +kernel
theorem dX4_addTicket_68 : decode cX4_addTicket 68 = .ok (.putfield 11, 3) := by decide +kernel
theorem dX4_addTicket_71 : decode cX4_addTicket 71 = .ok (.aload_n 0, 1) := by decide +kernel
theorem dX4_addTicket_72 : decode cX4_addTicket 72 = .ok (.getfield 17, 3) := by decide +kernel
theorem dX4_addTicket_75 : decode cX4_addTicket 75 = .ok (.iload_n 1, 1) := by decide +kernel
theorem dX4_addTicket_76 : decode cX4_addTicket 76 = .ok (.aaload, 1) := by decide +kernel
theorem dX4_addTicket_77 : decode cX4_addTicket 77 = .ok (.dup, 1) := by decide +kernel
theorem dX4_addTicket_78 : decode cX4_addTicket 78 = .ok (.getfield 75, 3) := by decide +kernel
theorem dX4_addTicket_81 : decode cX4_addTicket 81 = .ok (.iload 6, 2) := by decide +kernel
theorem dX4_addTicket_83 : decode cX4_addTicket 83 = .ok (.iadd, 1) := by decide +kernel
theorem dX4_addTicket_84 : decode cX4_addTicket 84 = .ok (.putfield 75, 3) := by decide +kernel
theorem dX4_addTicket_87 : decode cX4_addTicket 87 = .ok (.aload_n 0, 1) := by decide +kernel
theorem dX4_addTicket_88 : decode cX4_addTicket 88 = .ok (.dup, 1) := by decide +kernel
theorem dX4_addTicket_89 : decode cX4_addTicket 89 = .ok (.getfield 50, 3) := by decide +kernel
theorem dX4_addTicket_92 : decode cX4_addTicket 92 = .ok (.iconst 1, 1) := by decide +kernel
theorem dX4_addTicket_93 : decode cX4_addTicket 93 = .ok (.iadd, 1) := by decide +kernel
theorem dX4_addTicket_94 : decode cX4_addTicket 94 = .ok (.putfield 50, 3) := by decide +kernel
theorem dX4_addTicket_97 : decode cX4_addTicket 97 = .ok (.iload 5, 2) := by decide +kernel
theorem dX4_addTicket_99 : decode cX4_addTicket 99 = .ok (.ireturn, 1) := by decide +kernel
theorem dX4_canPay_0 : decode cX4_canPay 0 = .ok (.aload_n 0, 1) := by decide +kernel
theorem dX4_canPay_1 : decode cX4_canPay 1 = .ok (.iload_n 1, 1) := by decide +kernel
theorem dX4_canPay_2 : decode cX4_canPay 2 = .ok (.invokevirtual 76, 3) := by decide +kernel
theorem dX4_canPay_5 : decode cX4_canPay 5 = .ok (.ifCond .eq 20, 3) := by decide +kernel
theorem dX4_canPay_8 : decode cX4_canPay 8 = .ok (.aload_n 0, 1) := by decide +kernel
theorem dX4_canPay_9 : decode cX4_canPay 9 = .ok (.getfield 17, 3) := by decide +kernel
theorem dX4_canPay_12 : decode cX4_canPay 12 = .ok (.iload_n 1, 1) := by decide +kernel
theorem dX4_canPay_13 : decode cX4_canPay 13 = .ok (.aaload, 1) := by decide +kernel
theorem dX4_canPay_14 : decode cX4_canPay 14 = .ok (.getfield 75, 3) := by decide +kernel
theorem dX4_canPay_17 : decode cX4_canPay 17 = .ok (.iload_n 2, 1) := by decide +kernel
theorem dX4_canPay_18 : decode cX4_canPay 18 = .ok (.if_icmp .lt 7, 3) := by decide +kernel
theorem dX4_canPay_21 : decode cX4_canPay 21 = .ok (.iconst 1, 1) := by decide +kernel
theorem dX4_canPay_22 : decode cX4_canPay 22 = .ok (.goto 4, 3) := by decide +kernel
theorem dX4_canPay_25 : decode cX4_canPay 25 = .ok (.iconst 0, 1) := by decide +kernel
theorem dX4_canPay_26 : decode cX4_canPay 26 = .ok (.ireturn, 1) := by decide +kernel
theorem dX4_takeFrom_0 : decode cX4_takeFrom 0 = .ok (.aload_n 0, 1) := by decide +kernel
theorem dX4_takeFrom_1 : decode cX4_takeFrom 1 = .ok (.iload_n 1, 1) := by decide +kernel
theorem dX4_takeFrom_2 : decode cX4_takeFrom 2 = .ok (.invokevirtual 76, 3) := by decide +kernel
theorem dX4_takeFrom_5 : decode cX4_takeFrom 5 = .ok (.ifCond .eq 38, 3) := by decide +kernel
theorem dX4_takeFrom_8 : decode cX4_takeFrom 8 = .ok (.aload_n 0, 1) := by decide +kernel
theorem dX4_takeFrom_9 : decode cX4_takeFrom 9 = .ok (.getfield 17, 3) := by decide +kernel
theorem dX4_takeFrom_12 : decode cX4_takeFrom 12 = .ok (.iload_n 1, 1) := by decide +kernel
theorem dX4_takeFrom_13 : decode cX4_takeFrom 13 = .ok (.aaload, 1) := by decide +kernel
theorem dX4_takeFrom_14 : decode cX4_takeFrom 14 = .ok (.dup, 1) := by decide +kernel
theorem dX4_takeFrom_15 : decode cX4_takeFrom 15 = .ok (.getfield 75, 3) := by decide +kernel
theorem dX4_takeFrom_18 : decode cX4_takeFrom 18 = .ok (.iload_n 2, 1) := by decide +kernel
theorem dX4_takeFrom_19 : decode cX4_takeFrom 19 = .ok (.isub, 1) := by decide +kernel
theorem dX4_takeFrom_20 : decode cX4_takeFrom 20 = .ok (.putfield 75, 3) := by decide +kernel
theorem dX4_takeFrom_23 : decode cX4_takeFrom 23 = .ok (.aload_n 0, 1) := by decide +kernel
theorem dX4_takeFrom_24 : decode cX4_takeFrom 24 = .ok (.dup, 1) := by decide +kernel
theorem dX4_takeFrom_25 : decode cX4_takeFrom 25 = .ok (.getfield 11, 3) := by decide +kernel
theorem dX4_takeFrom_28 : decode cX4_takeFrom 28 = .ok (.iload_n 2, 1) := by decide +kernel
theorem dX4_takeFrom_29 : decode cX4_takeFrom 29 = .ok (.iadd, 1) := by decide +kernel
theorem dX4_takeFrom_30 : decode cX4_takeFrom 30 = .ok (.putfield 11, 3) := by decide +kernel
theorem dX4_takeFrom_33 : decode cX4_takeFrom 33 = .ok (.aload_n 0, 1) := by decide +kernel
theorem dX4_takeFrom_34 : decode cX4_takeFrom 34 = .ok (.dup, 1) := by decide +kernel
theorem dX4_takeFrom_35 : decode cX4_takeFrom 35 = .ok (.getfield 80, 3) := by decide +kernel
theorem dX4_takeFrom_38 : decode cX4_takeFrom 38 = .ok (.iload_n 3, 1) := by decide +kernel
theorem dX4_takeFrom_39 : decode cX4_takeFrom 39 = .ok (.iadd, 1) := by decide +kernel
theorem dX4_takeFrom_40 : decode cX4_takeFrom 40 = .ok (.putfield 80, 3) := by decide +kernel
theorem dX4_takeFrom_43 : decode cX4_takeFrom 43 = .ok (.return_, 1) := by decide +kernel
theorem dX4_handOut_0 : decode cX4_handOut 0 = .ok (.aload_n 0, 1) := by decide +kernel
theorem dX4_handOut_1 : decode cX4_handOut 1 = .ok (.getfield 23, 3) := by decide +kernel
theorem dX4_handOut_4 : decode cX4_handOut 4 = .ok (.iload_n 1, 1) := by decide +kernel
theorem dX4_handOut_5 : decode cX4_handOut 5 = .ok (.aaload, 1) := by decide +kernel
theorem dX4_handOut_6 : decode cX4_handOut 6 = .ok (.iconst 1, 1) := by decide +kernel
theorem dX4_handOut_7 : decode cX4_handOut 7 = .ok (.putfield 83, 3) := by decide +kernel
theorem dX4_handOut_10 : decode cX4_handOut 10 = .ok (.aload_n 0, 1) := by decide +kernel
theorem dX4_handOut_11 : decode cX4_handOut 11 = .ok (.getfield 36, 3) := by decide +kernel
theorem dX4_handOut_14 : decode cX4_handOut 14 = .ok (.iload_n 1, 1) := by decide +kernel
theorem dX4_handOut_15 : decode cX4_handOut 15 = .ok (.invokevirtual 86, 3) := by decide +kernel
theorem dX4_handOut_18 : decode cX4_handOut 18 = .ok (.aload_n 0, 1) := by decide +kernel
theorem dX4_handOut_19 : decode cX4_handOut 19 = .ok (.aload_n 0, 1) := by decide +kernel
theorem dX4_handOut_20 : decode cX4_handOut 20 = .ok (.getfield 23, 3) := by decide +kernel
theorem dX4_handOut_23 : decode cX4_handOut 23 = .ok (.iload_n 1, 1) := by decide +kernel
theorem dX4_handOut_24 : decode cX4_handOut 24 = .ok (.aaload, 1) := by decide +kernel
theorem dX4_handOut_25 : decode cX4_handOut 25 = .ok (.getfield 89, 3) := by decide +kernel
theorem dX4_handOut_28 : decode cX4_handOut 28 = .ok (.iconst 1, 1) := by decide +kernel
theorem dX4_handOut_29 : decode cX4_handOut 29 = .ok (.invokevirtual 92, 3) := by decide +kernel
theorem dX4_handOut_32 : decode cX4_handOut 32 = .ok (.return_, 1) := by decide +kernel
theorem dX4_changeTrust_0 : decode cX4_changeTrust 0 = .ok (.aload_n 0, 1) := by decide +kernel
theorem dX4_changeTrust_1 : decode cX4_changeTrust 1 = .ok (.iload_n 1, 1) := by decide +kernel
theorem dX4_changeTrust_2 : decode cX4_changeTrust 2 = .ok (.invokevirtual 76, 3) := by decide +kernel
theorem dX4_changeTrust_5 : decode cX4_changeTrust 5 = .ok (.ifCond .eq 13, 3) := by decide +kernel
theorem dX4_changeTrust_8 : decode cX4_changeTrust 8 = .ok (.aload_n 0, 1) := by decide +kernel
theorem dX4_changeTrust_9 : decode cX4_changeTrust 9 = .ok (.getfield 17, 3) := by decide +kernel
theorem dX4_changeTrust_12 : decode cX4_changeTrust 12 = .ok (.iload_n 1, 1) := by decide +kernel
theorem dX4_changeTrust_13 : decode cX4_changeTrust 13 = .ok (.aaload, 1) := by decide +kernel
theorem dX4_changeTrust_14 : decode cX4_changeTrust 14 = .ok (.iload_n 2, 1) := by decide +kernel
theorem dX4_changeTrust_15 : decode cX4_changeTrust 15 = .ok (.invokevirtual 95, 3) := by decide +kernel
theorem dX4_changeTrust_18 : decode cX4_changeTrust 18 = .ok (.return_, 1) := by decide +kernel
theorem dX4_goOn_0 : decode cX4_goOn 0 = .ok (.iconst 0, 1) := by decide +kernel
theorem dX4_goOn_1 : decode cX4_goOn 1 = .ok (.istore_n 2, 1) := by decide +kernel
theorem dX4_goOn_2 : decode cX4_goOn 2 = .ok (.iconst 0, 1) := by decide +kernel
theorem dX4_goOn_3 : decode cX4_goOn 3 = .ok (.istore_n 3, 1) := by decide +kernel
theorem dX4_goOn_4 : decode cX4_goOn 4 = .ok (.iload_n 3, 1) := by decide +kernel
theorem dX4_goOn_5 : decode cX4_goOn 5 = .ok (.iload_n 1, 1) := by decide +kernel
theorem dX4_goOn_6 : decode cX4_goOn 6 = .ok (.if_icmp .ge 47, 3) := by decide +kernel
theorem dX4_goOn_9 : decode cX4_goOn 9 = .ok (.aload_n 0, 1) := by decide +kernel
theorem dX4_goOn_10 : decode cX4_goOn 10 = .ok (.invokevirtual 97, 3) := by decide +kernel
theorem dX4_goOn_13 : decode cX4_goOn 13 = .ok (.aload_n 0, 1) := by decide +kernel
theorem dX4_goOn_14 : decode cX4_goOn 14 = .ok (.aload_n 0, 1) := by decide +kernel
theorem dX4_goOn_15 : decode cX4_goOn 15 = .ok (.getfield 29, 3) := by decide +kernel
theorem dX4_goOn_18 : decode cX4_goOn 18 = .ok (.aload_n 0, 1) := by decide +kernel
theorem dX4_goOn_19 : decode cX4_goOn 19 = .ok (.getfield 65, 3) := by decide +kernel
theorem dX4_goOn_22 : decode cX4_goOn 22 = .ok (.bipush 7, 2) := by decide +kernel
theorem dX4_goOn_24 : decode cX4_goOn 24 = .ok (.invokestatic 100, 3) := by decide +kernel
theorem dX4_goOn_27 : decode cX4_goOn 27 = .ok (.aaload, 1) := by decide +kernel
theorem dX4_goOn_28 : decode cX4_goOn 28 = .ok (.invokevirtual 106, 3) := by decide +kernel
theorem dX4_goOn_31 : decode cX4_goOn 31 = .ok (.ifCond .eq 6, 3) := by decide +kernel
theorem dX4_goOn_34 : decode cX4_goOn 34 = .ok (.iinc 2 1, 3) := by decide +kernel
theorem dX4_goOn_37 : decode cX4_goOn 37 = .ok (.aload_n 0, 1) := by decide +kernel
theorem dX4_goOn_38 : decode cX4_goOn 38 = .ok (.dup, 1) := by decide +kernel
theorem dX4_goOn_39 : decode cX4_goOn 39 = .ok (.getfield 65, 3) := by decide +kernel
theorem dX4_goOn_42 : decode cX4_goOn 42 = .ok (.iconst 1, 1) := by decide +kernel
theorem dX4_goOn_43 : decode cX4_goOn 43 = .ok (.iadd, 1) := by decide +kernel
theorem dX4_goOn_44 : decode cX4_goOn 44 = .ok (.putfield 65, 3) := by decide +kernel
theorem dX4_goOn_47 : decode cX4_goOn 47 = .ok (.iinc 3 1, 3) := by decide +kernel
theorem dX4_goOn_50 : decode cX4_goOn 50 = .ok (.goto (-46), 3) := by decide +kernel
theorem dX4_goOn_53 : decode cX4_goOn 53 = .ok (.iload_n 2, 1) := by decide +kernel
theorem dX4_goOn_54 : decode cX4_goOn 54 = .ok (.ireturn, 1) := by decide +kernel
theorem dX4_ageTickets_0 : decode cX4_ageTickets 0 = .ok (.iconst 0, 1) := by decide +kernel
theorem dX4_ageTickets_1 : decode cX4_ageTickets 1 = .ok (.istore_n 1, 1) := by decide +kernel
theorem dX4_ageTickets_2 : decode cX4_ageTickets 2 = .ok (.iload_n 1, 1) := by decide +kernel
theorem dX4_ageTickets_3 : decode cX4_ageTickets 3 = .ok (.aload_n 0, 1) := by decide +kernel
theorem dX4_ageTickets_4 : decode cX4_ageTickets 4 = .ok (.getfield 50, 3) := by decide +kernel
theorem dX4_ageTickets_7 : decode cX4_ageTickets 7 = .ok (.if_icmp .ge 63, 3) := by decide +kernel
theorem dX4_ageTickets_10 : decode cX4_ageTickets 10 = .ok (.aload_n 0, 1) := by decide +kernel
theorem dX4_ageTickets_11 : decode cX4_ageTickets 11 = .ok (.getfield 23, 3) := by decide +kernel
theorem dX4_ageTickets_14 : decode cX4_ageTickets 14 = .ok (.iload_n 1, 1) := by decide +kernel
theorem dX4_ageTickets_15 : decode cX4_ageTickets 15 = .ok (.aaload, 1) := by decide +kernel
theorem dX4_ageTickets_16 : decode cX4_ageTickets 16 = .ok (.astore_n 2, 1) := by decide +kernel
theorem dX4_ageTickets_17 : decode cX4_ageTickets 17 = .ok (.aload_n 2, 1) := by decide +kernel
theorem dX4_ageTickets_18 : decode cX4_ageTickets 18 = .ok (.getfield 83, 3) := by decide +kernel
theorem dX4_ageTickets_21 : decode cX4_ageTickets 21 = .ok (.iconst 2, 1) := by decide +kernel
theorem dX4_ageTickets_22 : decode cX4_ageTickets 22 = .ok (.if_icmp .ne 10, 3) := by decide +kernel
theorem dX4_ageTickets_25 : decode cX4_ageTickets 25 = .ok (.aload_n 2, 1) := by decide +kernel
theorem dX4_ageTickets_26 : decode cX4_ageTickets 26 = .ok (.invokevirtual 110, 3) := by decide +kernel
theorem dX4_ageTickets_29 : decode cX4_ageTickets 29 = .ok (.goto 35, 3) := by decide +kernel
theorem dX4_ageTickets_32 : decode cX4_ageTickets 32 = .ok (.aload_n 2, 1) := by decide +kernel
theorem dX4_ageTickets_33 : decode cX4_ageTickets 33 = .ok (.getfield 83, 3) := by decide +kernel
theorem dX4_ageTickets_36 : decode cX4_ageTickets 36 = .ok (.ifCond .ne 28, 3) := by decide +kernel
theorem dX4_ageTickets_39 : decode cX4_ageTickets 39 = .ok (.aload_n 2, 1) := by decide +kernel
theorem dX4_ageTickets_40 : decode cX4_ageTickets 40 = .ok (.getfield 113, 3) := by decide +kernel
theorem dX4_ageTickets_43 : decode cX4_ageTickets 43 = .ok (.aload_n 0, 1) := by decide +kernel
theorem dX4_ageTickets_44 : decode cX4_ageTickets 44 = .ok (.getfield 65, 3) := by decide +kernel
theorem dX4_ageTickets_47 : decode cX4_ageTickets 47 = .ok (.if_icmp .ge 17, 3) := by decide +kernel
theorem dX4_ageTickets_50 : decode cX4_ageTickets 50 = .ok (.aload_n 2, 1) := by decide +kernel
theorem dX4_ageTickets_51 : decode cX4_ageTickets 51 = .ok (.invokevirtual 116, 3) := by decide +kernel
theorem dX4_ageTickets_54 : decode cX4_ageTickets 54 = .ok (.aload_n 0, 1) := by decide +kernel
theorem dX4_ageTickets_55 : decode cX4_ageTickets 55 = .ok (.aload_n 2, 1) := by decide +kernel
theorem dX4_ageTickets_56 : decode cX4_ageTickets 56 = .ok (.getfield 89, 3) := by decide +kernel
theorem dX4_ageTickets_59 : decode cX4_ageTickets 59 = .ok (.bipush (-2), 2) := by decide +kernel
theorem dX4_ageTickets_61 : decode cX4_ageTickets 61 = .ok (.invokevirtual 92, 3) := by decide +kernel
theorem dX4_ageTickets_64 : decode cX4_ageTickets 64 = .ok (.iinc 1 1, 3) := by decide +kernel
theorem dX4_ageTickets_67 : decode cX4_ageTickets 67 = .ok (.goto (-65), 3) := by decide +kernel
theorem dX4_ageTickets_70 : decode cX4_ageTickets 70 = .ok (.return_, 1) := by decide +kernel
theorem dX4_sellToBuyer_0 : decode cX4_sellToBuyer 0 = .ok (.aload_n 0, 1) := by decide +kernel
theorem dX4_sellToBuyer_1 : decode cX4_sellToBuyer 1 = .ok (.aload_n 1, 1) := by decide +kernel
theorem dX4_sellToBuyer_2 : decode cX4_sellToBuyer 2 = .ok (.invokevirtual 119, 3) := by decide +kernel
theorem dX4_sellToBuyer_5 : decode cX4_sellToBuyer 5 = .ok (.istore_n 2, 1) := by decide +kernel
theorem dX4_sellToBuyer_6 : decode cX4_sellToBuyer 6 = .ok (.iload_n 2, 1) := by decide +kernel
theorem dX4_sellToBuyer_7 : decode cX4_sellToBuyer 7 = .ok (.iconst (-1), 1) := by decide +kernel
theorem dX4_sellToBuyer_8 : decode cX4_sellToBuyer 8 = .ok (.if_icmp .ne 5, 3) := by decide +kernel
theorem dX4_sellToBuyer_11 : decode cX4_sellToBuyer 11 = .ok (.iconst 0, 1) := by decide +kernel
theorem dX4_sellToBuyer_12 : decode cX4_sellToBuyer 12 = .ok (.ireturn, 1) := by decide +kernel
theorem dX4_sellToBuyer_13 : decode cX4_sellToBuyer 13 = .ok (.aload_n 0, 1) := by decide +kernel
theorem dX4_sellToBuyer_14 : decode cX4_sellToBuyer 14 = .ok (.getfield 23, 3) := by decide +kernel
theorem dX4_sellToBuyer_17 : decode cX4_sellToBuyer 17 = .ok (.iload_n 2, 1) := by decide +kernel
theorem dX4_sellToBuyer_18 : decode cX4_sellToBuyer 18 = .ok (.aaload, 1) := by decide +kernel
theorem dX4_sellToBuyer_19 : decode cX4_sellToBuyer 19 = .ok (.iconst 3, 1) := by decide +kernel
theorem dX4_sellToBuyer_20 : decode cX4_sellToBuyer 20 = .ok (.putfield 83, 3) := by decide +kernel
theorem dX4_sellToBuyer_23 : decode cX4_sellToBuyer 23 = .ok (.aload_n 0, 1) := by decide +kernel
theorem dX4_sellToBuyer_24 : decode cX4_sellToBuyer 24 = .ok (.dup, 1) := by decide +kernel
theorem dX4_sellToBuyer_25 : decode cX4_sellToBuyer 25 = .ok (.getfield 11, 3) := by decide +kernel
theorem dX4_sellToBuyer_28 : decode cX4_sellToBuyer 28 = .ok (.aload_n 0, 1) := by decide +kernel
theorem dX4_sellToBuyer_29 : decode cX4_sellToBuyer 29 = .ok (.getfield 23, 3) := by decide +kernel
theorem dX4_sellToBuyer_32 : decode cX4_sellToBuyer 32 = .ok (.iload_n 2, 1) := by decide +kernel
theorem dX4_sellToBuyer_33 : decode cX4_sellToBuyer 33 = .ok (.aaload, 1) := by decide +kernel
theorem dX4_sellToBuyer_34 : decode cX4_sellToBuyer 34 = .ok (.getfield 123, 3) := by decide +kernel
theorem dX4_sellToBuyer_37 : decode cX4_sellToBuyer 37 = .ok (.iadd, 1) := by decide +kernel
theorem dX4_sellToBuyer_38 : decode cX4_sellToBuyer 38 = .ok (.putfield 11, 3) := by decide +kernel
theorem dX4_sellToBuyer_41 : decode cX4_sellToBuyer 41 = .ok (.aload_n 0, 1) := by decide +kernel
theorem dX4_sellToBuyer_42 : decode cX4_sellToBuyer 42 = .ok (.getfield 36, 3) := by decide +kernel
theorem dX4_sellToBuyer_45 : decode cX4_sellToBuyer 45 = .ok (.iload_n 2, 1) := by decide +kernel
theorem dX4_sellToBuyer_46 : decode cX4_sellToBuyer 46 = .ok (.invokevirtual 86, 3) := by decide +kernel
theorem dX4_sellToBuyer_49 : decode cX4_sellToBuyer 49 = .ok (.iconst 1, 1) := by decide +kernel
theorem dX4_sellToBuyer_50 : decode cX4_sellToBuyer 50 = .ok (.ireturn, 1) := by decide +kernel
theorem dX4_dearestFor_0 : decode cX4_dearestFor 0 = .ok (.iconst (-1), 1) := by decide +kernel
theorem dX4_dearestFor_1 : decode cX4_dearestFor 1 = .ok (.istore_n 2, 1) := by decide +kernel
theorem dX4_dearestFor_2 : decode cX4_dearestFor 2 = .ok (.iconst (-1), 1) := by decide +kernel
theorem dX4_dearestFor_3 : decode cX4_dearestFor 3 = .ok (.istore_n 3, 1) := by decide +kernel
theorem dX4_dearestFor_4 : decode cX4_dearestFor 4 = .ok (.iconst 0, 1) := by decide +kernel
theorem dX4_dearestFor_5 : decode cX4_dearestFor 5 = .ok (.istore 4, 2) := by decide +kernel
theorem dX4_dearestFor_7 : decode cX4_dearestFor 7 = .ok (.iload 4, 2) := by decide +kernel
theorem dX4_dearestFor_9 : decode cX4_dearestFor 9 = .ok (.aload_n 0, 1) := by decide +kernel
theorem dX4_dearestFor_10 : decode cX4_dearestFor 10 = .ok (.getfield 50, 3) := by decide +kernel
theorem dX4_dearestFor_13 : decode cX4_dearestFor 13 = .ok (.if_icmp .ge 51, 3) := by decide +kernel
theorem dX4_dearestFor_16 : decode cX4_dearestFor 16 = .ok (.aload_n 1, 1) := by decide +kernel
theorem dX4_dearestFor_17 : decode cX4_dearestFor 17 = .ok (.aload_n 0, 1) := by decide +kernel
theorem dX4_dearestFor_18 : decode cX4_dearestFor 18 = .ok (.getfield 23, 3) := by decide +kernel
theorem dX4_dearestFor_21 : decode cX4_dearestFor 21 = .ok (.iload 4, 2) := by decide +kernel
theorem dX4_dearestFor_23 : decode cX4_dearestFor 23 = .ok (.aaload, 1) := by decide +kernel
theorem dX4_dearestFor_24 : decode cX4_dearestFor 24 = .ok (.invokevirtual 126, 3) := by decide +kernel
theorem dX4_dearestFor_27 : decode cX4_dearestFor 27 = .ok (.ifCond .eq 31, 3) := by decide +kernel
theorem dX4_dearestFor_30 : decode cX4_dearestFor 30 = .ok (.aload_n 0, 1) := by decide +kernel
theorem dX4_dearestFor_31 : decode cX4_dearestFor 31 = .ok (.getfield 23, 3) := by decide +kernel
theorem dX4_dearestFor_34 : decode cX4_dearestFor 34 = .ok (.iload 4, 2) := by decide +kernel
theorem dX4_dearestFor_36 : decode cX4_dearestFor 36 = .ok (.aaload, 1) := by decide +kernel
theorem dX4_dearestFor_37 : decode cX4_dearestFor 37 = .ok (.getfield 123, 3) := by decide +kernel
theorem dX4_dearestFor_40 : decode cX4_dearestFor 40 = .ok (.iload_n 3, 1) := by decide +kernel
theorem dX4_dearestFor_41 : decode cX4_dearestFor 41 = .ok (.if_icmp .le 17, 3) := by decide +kernel
theorem dX4_dearestFor_44 : decode cX4_dearestFor 44 = .ok (.iload 4, 2) := by decide +kernel
theorem dX4_dearestFor_46 : decode cX4_dearestFor 46 = .ok (.istore_n 2, 1) := by decide +kernel
theorem dX4_dearestFor_47 : decode cX4_dearestFor 47 = .ok (.aload_n 0, 1) := by decide +kernel
theorem dX4_dearestFor_48 : decode cX4_dearestFor 48 = .ok (.getfield 23, 3) := by decide +kernel
theorem dX4_dearestFor_51 : decode cX4_dearestFor 51 = .ok (.iload 4, 2) := by decide +kernel
theorem dX4_dearestFor_53 : decode cX4_dearestFor 53 = .ok (.aaload, 1) := by decide +kernel
theorem dX4_dearestFor_54 : decode cX4_dearestFor 54 = .ok (.getfield 123, 3) := by decide +kernel
theorem dX4_dearestFor_57 : decode cX4_dearestFor 57 = .ok (.istore_n 3, 1) := by decide +kernel
theorem dX4_dearestFor_58 : decode cX4_dearestFor 58 = .ok (.iinc 4 1, 3) := by decide +kernel
theorem dX4_dearestFor_61 : decode cX4_dearestFor 61 = .ok (.goto (-54), 3) := by decide +kernel
theorem dX4_dearestFor_64 : decode cX4_dearestFor 64 = .ok (.iload_n 2, 1) := by decide +kernel
theorem dX4_dearestFor_65 : decode cX4_dearestFor 65 = .ok (.ireturn, 1) := by decide +kernel
theorem dX4_bestFor_0 : decode cX4_bestFor 0 = .ok (.iconst (-1), 1) := by decide +kernel
theorem dX4_bestFor_1 : decode cX4_bestFor 1 = .ok (.istore_n 2, 1) := by decide +kernel
theorem dX4_bestFor_2 : decode cX4_bestFor 2 = .ok (.iconst 0, 1) := by decide +kernel
theorem dX4_bestFor_3 : decode cX4_bestFor 3 = .ok (.istore_n 3, 1) := by decide +kernel
theorem dX4_bestFor_4 : decode cX4_bestFor 4 = .ok (.iconst 0, 1) := by decide +kernel
theorem dX4_bestFor_5 : decode cX4_bestFor 5 = .ok (.istore 4, 2) := by decide +kernel
theorem dX4_bestFor_7 : decode cX4_bestFor 7 = .ok (.iload 4, 2) := by decide +kernel
theorem dX4_bestFor_9 : decode cX4_bestFor 9 = .ok (.aload_n 0, 1) := by decide +kernel
theorem dX4_bestFor_10 : decode cX4_bestFor 10 = .ok (.getfield 50, 3) := by decide +kernel
theorem dX4_bestFor_13 : decode cX4_bestFor 13 = .ok (.if_icmp .ge 77, 3) := by decide +kernel
theorem dX4_bestFor_16 : decode cX4_bestFor 16 = .ok (.aload_n 0, 1) := by decide +kernel
theorem dX4_bestFor_17 : decode cX4_bestFor 17 = .ok (.getfield 23, 3) := by decide +kernel
theorem dX4_bestFor_20 : decode cX4_bestFor 20 = .ok (.iload 4, 2) := by decide +kernel
theorem dX4_bestFor_22 : decode cX4_bestFor 22 = .ok (.aaload, 1) := by decide +kernel
theorem dX4_bestFor_23 : decode cX4_bestFor 23 = .ok (.aload_n 0, 1) := by decide +kernel
theorem dX4_bestFor_24 : decode cX4_bestFor 24 = .ok (.getfield 65, 3) := by decide +kernel
theorem dX4_bestFor_27 : decode cX4_bestFor 27 = .ok (.invokevirtual 130, 3) := by decide +kernel
theorem dX4_bestFor_30 : decode cX4_bestFor 30 = .ok (.istore 5, 2) := by decide +kernel
theorem dX4_bestFor_32 : decode cX4_bestFor 32 = .ok (.aload_n 0, 1) := by decide +kernel
theorem dX4_bestFor_33 : decode cX4_bestFor 33 = .ok (.getfield 23, 3) := by decide +kernel
theorem dX4_bestFor_36 : decode cX4_bestFor 36 = .ok (.iload 4, 2) := by decide +kernel
theorem dX4_bestFor_38 : decode cX4_bestFor 38 = .ok (.aaload, 1) := by decide +kernel
theorem dX4_bestFor_39 : decode cX4_bestFor 39 = .ok (.getfield 133, 3) := by decide +kernel
theorem dX4_bestFor_42 : decode cX4_bestFor 42 = .ok (.iload 5, 2) := by decide +kernel
theorem dX4_bestFor_44 : decode cX4_bestFor 44 = .ok (.isub, 1) := by decide +kernel
theorem dX4_bestFor_45 : decode cX4_bestFor 45 = .ok (.istore 6, 2) := by decide +kernel
theorem dX4_bestFor_47 : decode cX4_bestFor 47 = .ok (.aload_n 0, 1) := by decide +kernel
theorem dX4_bestFor_48 : decode cX4_bestFor 48 = .ok (.iload 4, 2) := by decide +kernel
theorem dX4_bestFor_50 : decode cX4_bestFor 50 = .ok (.iload_n 1, 1) := by decide +kernel
theorem dX4_bestFor_51 : decode cX4_bestFor 51 = .ok (.invokevirtual 136, 3) := by decide +kernel
theorem dX4_bestFor_54 : decode cX4_bestFor 54 = .ok (.ifCond .eq 30, 3) := by decide +kernel
theorem dX4_bestFor_57 : decode cX4_bestFor 57 = .ok (.aload_n 0, 1) := by decide +kernel
theorem dX4_bestFor_58 : decode cX4_bestFor 58 = .ok (.iload_n 1, 1) := by decide +kernel
theorem dX4_bestFor_59 : decode cX4_bestFor 59 = .ok (.iload 5, 2) := by decide +kernel
theorem dX4_bestFor_61 : decode cX4_bestFor 61 = .ok (.invokevirtual 140, 3) := by decide +kernel
theorem dX4_bestFor_64 : decode cX4_bestFor 64 = .ok (.ifCond .eq 20, 3) := by decide +kernel
theorem dX4_bestFor_67 : decode cX4_bestFor 67 = .ok (.iload_n 2, 1) := by decide +kernel
theorem dX4_bestFor_68 : decode cX4_bestFor 68 = .ok (.iconst (-1), 1) := by decide +kernel
theorem dX4_bestFor_69 : decode cX4_bestFor 69 = .ok (.if_icmp .eq 9, 3) := by decide +kernel
theorem dX4_bestFor_72 : decode cX4_bestFor 72 = .ok (.iload 6, 2) := by decide +kernel
theorem dX4_bestFor_74 : decode cX4_bestFor 74 = .ok (.iload_n 3, 1) := by decide +kernel
theorem dX4_bestFor_75 : decode cX4_bestFor 75 = .ok (.if_icmp .le 9, 3) := by decide +kernel
theorem dX4_bestFor_78 : decode cX4_bestFor 78 = .ok (.iload 4, 2) := by decide +kernel
theorem dX4_bestFor_80 : decode cX4_bestFor 80 = .ok (.istore_n 2, 1) := by decide +kernel
theorem dX4_bestFor_81 : decode cX4_bestFor 81 = .ok (.iload 6, 2) := by decide +kernel
theorem dX4_bestFor_83 : decode cX4_bestFor 83 = .ok (.istore_n 3, 1) := by decide +kernel
theorem dX4_bestFor_84 : decode cX4_bestFor 84 = .ok (.iinc 4 1, 3) := by decide +kernel
theorem dX4_bestFor_87 : decode cX4_bestFor 87 = .ok (.goto (-80), 3) := by decide +kernel
theorem dX4_bestFor_90 : decode cX4_bestFor 90 = .ok (.iload_n 2, 1) := by decide +kernel
theorem dX4_bestFor_91 : decode cX4_bestFor 91 = .ok (.ireturn, 1) := by decide +kernel
theorem dX4_isHeldBy_0 : decode cX4_isHeldBy 0 = .ok (.aload_n 0, 1) := by decide +kernel
theorem dX4_isHeldBy_1 : decode cX4_isHeldBy 1 = .ok (.getfield 23, 3) := by decide +kernel
theorem dX4_isHeldBy_4 : decode cX4_isHeldBy 4 = .ok (.iload_n 1, 1) := by decide +kernel
theorem dX4_isHeldBy_5 : decode cX4_isHeldBy 5 = .ok (.aaload, 1) := by decide +kernel
theorem dX4_isHeldBy_6 : decode cX4_isHeldBy 6 = .ok (.getfield 83, 3) := by decide +kernel
theorem dX4_isHeldBy_9 : decode cX4_isHeldBy 9 = .ok (.ifCond .ne 20, 3) := by decide +kernel
theorem dX4_isHeldBy_12 : decode cX4_isHeldBy 12 = .ok (.aload_n 0, 1) := by decide +kernel
theorem dX4_isHeldBy_13 : decode cX4_isHeldBy 13 = .ok (.getfield 23, 3) := by decide +kernel
theorem dX4_isHeldBy_16 : decode cX4_isHeldBy 16 = .ok (.iload_n 1, 1) := by decide +kernel
theorem dX4_isHeldBy_17 : decode cX4_isHeldBy 17 = .ok (.aaload, 1) := by decide +kernel
theorem dX4_isHeldBy_18 : decode cX4_isHeldBy 18 = .ok (.getfield 89, 3) := by decide +kernel
theorem dX4_isHeldBy_21 : decode cX4_isHeldBy 21 = .ok (.iload_n 2, 1) := by decide +kernel
theorem dX4_isHeldBy_22 : decode cX4_isHeldBy 22 = .ok (.if_icmp .ne 7, 3) := by decide +kernel
theorem dX4_isHeldBy_25 : decode cX4_isHeldBy 25 = .ok (.iconst 1, 1) := by decide +kernel
theorem dX4_isHeldBy_26 : decode cX4_isHeldBy 26 = .ok (.goto 4, 3) := by decide +kernel
theorem dX4_isHeldBy_29 : decode cX4_isHeldBy 29 = .ok (.iconst 0, 1) := by decide +kernel
theorem dX4_isHeldBy_30 : decode cX4_isHeldBy 30 = .ok (.ireturn, 1) := by decide +kernel
theorem dX4_putPrices_0 : decode cX4_putPrices 0 = .ok (.iconst 0, 1) := by decide +kernel
theorem dX4_putPrices_1 : decode cX4_putPrices 1 = .ok (.istore_n 2, 1) := by decide +kernel
theorem dX4_putPrices_2 : decode cX4_putPrices 2 = .ok (.iconst 0, 1) := by decide +kernel
theorem dX4_putPrices_3 : decode cX4_putPrices 3 = .ok (.istore_n 3, 1) := by decide +kernel
theorem dX4_putPrices_4 : decode cX4_putPrices 4 = .ok (.iload_n 3, 1) := by decide +kernel
theorem dX4_putPrices_5 : decode cX4_putPrices 5 = .ok (.aload_n 0, 1) := by decide +kernel
theorem dX4_putPrices_6 : decode cX4_putPrices 6 = .ok (.getfield 50, 3) := by decide +kernel
theorem dX4_putPrices_9 : decode cX4_putPrices 9 = .ok (.if_icmp .ge 43, 3) := by decide +kernel
theorem dX4_putPrices_12 : decode cX4_putPrices 12 = .ok (.aload_n 0, 1) := by decide +kernel
theorem dX4_putPrices_13 : decode cX4_putPrices 13 = .ok (.getfield 23, 3) := by decide +kernel
theorem dX4_putPrices_16 : decode cX4_putPrices 16 = .ok (.iload_n 3, 1) := by decide +kernel
theorem dX4_putPrices_17 : decode cX4_putPrices 17 = .ok (.aaload, 1) := by decide +kernel
theorem dX4_putPrices_18 : decode cX4_putPrices 18 = .ok (.getfield 83, 3) := by decide +kernel
theorem dX4_putPrices_21 : decode cX4_putPrices 21 = .ok (.iconst 2, 1) := by decide +kernel
theorem dX4_putPrices_22 : decode cX4_putPrices 22 = .ok (.if_icmp .ne 24, 3) := by decide +kernel
theorem dX4_putPrices_25 : decode cX4_putPrices 25 = .ok (.iload_n 2, 1) := by decide +kernel
theorem dX4_putPrices_26 : decode cX4_putPrices 26 = .ok (.aload_n 1, 1) := by decide +kernel
theorem dX4_putPrices_27 : decode cX4_putPrices 27 = .ok (.arraylength, 1) := by decide +kernel
theorem dX4_putPrices_28 : decode cX4_putPrices 28 = .ok (.if_icmp .ge 18, 3) := by decide +kernel
theorem dX4_putPrices_31 : decode cX4_putPrices 31 = .ok (.aload_n 1, 1) := by decide +kernel
theorem dX4_putPrices_32 : decode cX4_putPrices 32 = .ok (.iload_n 2, 1) := by decide +kernel
theorem dX4_putPrices_33 : decode cX4_putPrices 33 = .ok (.aload_n 0, 1) := by decide +kernel
theorem dX4_putPrices_34 : decode cX4_putPrices 34 = .ok (.getfield 23, 3) := by decide +kernel
theorem dX4_putPrices_37 : decode cX4_putPrices 37 = .ok (.iload_n 3, 1) := by decide +kernel
theorem dX4_putPrices_38 : decode cX4_putPrices 38 = .ok (.aaload, 1) := by decide +kernel
theorem dX4_putPrices_39 : decode cX4_putPrices 39 = .ok (.getfield 123, 3) := by decide +kernel
theorem dX4_putPrices_42 : decode cX4_putPrices 42 = .ok (.iastore, 1) := by decide +kernel
theorem dX4_putPrices_43 : decode cX4_putPrices 43 = .ok (.iinc 2 1, 3) := by decide +kernel
theorem dX4_putPrices_46 : decode cX4_putPrices 46 = .ok (.iinc 3 1, 3) := by decide +kernel
theorem dX4_putPrices_49 : decode cX4_putPrices 49 = .ok (.goto (-45), 3) := by decide +kernel
theorem dX4_putPrices_52 : decode cX4_putPrices 52 = .ok (.iload_n 2, 1) := by decide +kernel
theorem dX4_putPrices_53 : decode cX4_putPrices 53 = .ok (.ireturn, 1) := by decide +kernel
theorem dX4_putDebts_0 : decode cX4_putDebts 0 = .ok (.iconst 0, 1) := by decide +kernel
theorem dX4_putDebts_1 : decode cX4_putDebts 1 = .ok (.istore_n 3, 1) := by decide +kernel
theorem dX4_putDebts_2 : decode cX4_putDebts 2 = .ok (.iconst 0, 1) := by decide +kernel
theorem dX4_putDebts_3 : decode cX4_putDebts 3 = .ok (.istore 4, 2) := by decide +kernel
theorem dX4_putDebts_5 : decode cX4_putDebts 5 = .ok (.iload 4, 2) := by decide +kernel
theorem dX4_putDebts_7 : decode cX4_putDebts 7 = .ok (.aload_n 0, 1) := by decide +kernel
theorem dX4_putDebts_8 : decode cX4_putDebts 8 = .ok (.getfield 50, 3) := by decide +kernel
theorem dX4_putDebts_11 : decode cX4_putDebts 11 = .ok (.if_icmp .ge 45, 3) := by decide +kernel
theorem dX4_putDebts_14 : decode cX4_putDebts 14 = .ok (.aload_n 0, 1) := by decide +kernel
theorem dX4_putDebts_15 : decode cX4_putDebts 15 = .ok (.iload 4, 2) := by decide +kernel
theorem dX4_putDebts_17 : decode cX4_putDebts 17 = .ok (.iload_n 1, 1) := by decide +kernel
theorem dX4_putDebts_18 : decode cX4_putDebts 18 = .ok (.invokevirtual 136, 3) := by decide +kernel
theorem dX4_putDebts_21 : decode cX4_putDebts 21 = .ok (.ifCond .eq 29, 3) := by decide +kernel
theorem dX4_putDebts_24 : decode cX4_putDebts 24 = .ok (.iload_n 3, 1) := by decide +kernel
theorem dX4_putDebts_25 : decode cX4_putDebts 25 = .ok (.aload_n 2, 1) := by decide +kernel
theorem dX4_putDebts_26 : decode cX4_putDebts 26 = .ok (.arraylength, 1) := by decide +kernel
theorem dX4_putDebts_27 : decode cX4_putDebts 27 = .ok (.if_icmp .ge 23, 3) := by decide +kernel
theorem dX4_putDebts_30 : decode cX4_putDebts 30 = .ok (.aload_n 2, 1) := by decide +kernel
theorem dX4_putDebts_31 : decode cX4_putDebts 31 = .ok (.iload_n 3, 1) := by decide +kernel
theorem dX4_putDebts_32 : decode cX4_putDebts 32 = .ok (.aload_n 0, 1) := by decide +kernel
theorem dX4_putDebts_33 : decode cX4_putDebts 33 = .ok (.getfield 23, 3) := by decide +kernel
theorem dX4_putDebts_36 : decode cX4_putDebts 36 = .ok (.iload 4, 2) := by decide +kernel
theorem dX4_putDebts_38 : decode cX4_putDebts 38 = .ok (.aaload, 1) := by decide +kernel
theorem dX4_putDebts_39 : decode cX4_putDebts 39 = .ok (.aload_n 0, 1) := by decide +kernel
theorem dX4_putDebts_40 : decode cX4_putDebts 40 = .ok (.getfield 65, 3) := by decide +kernel
theorem dX4_putDebts_43 : decode cX4_putDebts 43 = .ok (.invokevirtual 130, 3) := by decide +kernel
theorem dX4_putDebts_46 : decode cX4_putDebts 46 = .ok (.iastore, 1) := by decide +kernel
theorem dX4_putDebts_47 : decode cX4_putDebts 47 = .ok (.iinc 3 1, 3) := by decide +kernel
theorem dX4_putDebts_50 : decode cX4_putDebts 50 = .ok (.iinc 4 1, 3) := by decide +kernel
theorem dX4_putDebts_53 : decode cX4_putDebts 53 = .ok (.goto (-48), 3) := by decide +kernel
theorem dX4_putDebts_56 : decode cX4_putDebts 56 = .ok (.iload_n 3, 1) := by decide +kernel
theorem dX4_putDebts_57 : decode cX4_putDebts 57 = .ok (.ireturn, 1) := by decide +kernel
theorem dX4_ticketsIn_0 : decode cX4_ticketsIn 0 = .ok (.iconst 0, 1) := by decide +kernel
theorem dX4_ticketsIn_1 : decode cX4_ticketsIn 1 = .ok (.istore_n 2, 1) := by decide +kernel
theorem dX4_ticketsIn_2 : decode cX4_ticketsIn 2 = .ok (.iconst 0, 1) := by decide +kernel
theorem dX4_ticketsIn_3 : decode cX4_ticketsIn 3 = .ok (.istore_n 3, 1) := by decide +kernel
theorem dX4_ticketsIn_4 : decode cX4_ticketsIn 4 = .ok (.iload_n 3, 1) := by decide +kernel
theorem dX4_ticketsIn_5 : decode cX4_ticketsIn 5 = .ok (.aload_n 0, 1) := by decide +kernel
theorem dX4_ticketsIn_6 : decode cX4_ticketsIn 6 = .ok (.getfield 50, 3) := by decide +kernel
theorem dX4_ticketsIn_9 : decode cX4_ticketsIn 9 = .ok (.if_icmp .ge 25, 3) := by decide +kernel
theorem dX4_ticketsIn_12 : decode cX4_ticketsIn 12 = .ok (.aload_n 0, 1) := by decide +kernel
theorem dX4_ticketsIn_13 : decode cX4_ticketsIn 13 = .ok (.getfield 23, 3) := by decide +kernel
theorem dX4_ticketsIn_16 : decode cX4_ticketsIn 16 = .ok (.iload_n 3, 1) := by decide +kernel
theorem dX4_ticketsIn_17 : decode cX4_ticketsIn 17 = .ok (.aaload, 1) := by decide +kernel
theorem dX4_ticketsIn_18 : decode cX4_ticketsIn 18 = .ok (.getfield 83, 3) := by decide +kernel
theorem dX4_ticketsIn_21 : decode cX4_ticketsIn 21 = .ok (.iload_n 1, 1) := by decide +kernel
theorem dX4_ticketsIn_22 : decode cX4_ticketsIn 22 = .ok (.if_icmp .ne 6, 3) := by decide +kernel
theorem dX4_ticketsIn_25 : decode cX4_ticketsIn 25 = .ok (.iinc 2 1, 3) := by decide +kernel
theorem dX4_ticketsIn_28 : decode cX4_ticketsIn 28 = .ok (.iinc 3 1, 3) := by decide +kernel
theorem dX4_ticketsIn_31 : decode cX4_ticketsIn 31 = .ok (.goto (-27), 3) := by decide +kernel
theorem dX4_ticketsIn_34 : decode cX4_ticketsIn 34 = .ok (.iload_n 2, 1) := by decide +kernel
theorem dX4_ticketsIn_35 : decode cX4_ticketsIn 35 = .ok (.ireturn, 1) := by decide +kernel
theorem dX4_ticketsOf_0 : decode cX4_ticketsOf 0 = .ok (.iconst 0, 1) := by decide +kernel
theorem dX4_ticketsOf_1 : decode cX4_ticketsOf 1 = .ok (.istore_n 3, 1) := by decide +kernel
theorem dX4_ticketsOf_2 : decode cX4_ticketsOf 2 = .ok (.iconst 0, 1) := by decide +kernel
theorem dX4_ticketsOf_3 : decode cX4_ticketsOf 3 = .ok (.istore 4, 2) := by decide +kernel
theorem dX4_ticketsOf_5 : decode cX4_ticketsOf 5 = .ok (.iload 4, 2) := by decide +kernel
theorem dX4_ticketsOf_7 : decode cX4_ticketsOf 7 = .ok (.aload_n 0, 1) := by decide +kernel
theorem dX4_ticketsOf_8 : decode cX4_ticketsOf 8 = .ok (.getfield 50, 3) := by decide +kernel
theorem dX4_ticketsOf_11 : decode cX4_ticketsOf 11 = .ok (.if_icmp .ge 40, 3) := by decide +kernel
theorem dX4_ticketsOf_14 : decode cX4_ticketsOf 14 = .ok (.aload_n 0, 1) := by decide +kernel
theorem dX4_ticketsOf_15 : decode cX4_ticketsOf 15 = .ok (.getfield 23, 3) := by decide +kernel
theorem dX4_ticketsOf_18 : decode cX4_ticketsOf 18 = .ok (.iload 4, 2) := by decide +kernel
theorem dX4_ticketsOf_20 : decode cX4_ticketsOf 20 = .ok (.aaload, 1) := by decide +kernel
theorem dX4_ticketsOf_21 : decode cX4_ticketsOf 21 = .ok (.getfield 89, 3) := by decide +kernel
theorem dX4_ticketsOf_24 : decode cX4_ticketsOf 24 = .ok (.iload_n 1, 1) := by decide +kernel
theorem dX4_ticketsOf_25 : decode cX4_ticketsOf 25 = .ok (.if_icmp .ne 20, 3) := by decide +kernel
theorem dX4_ticketsOf_28 : decode cX4_ticketsOf 28 = .ok (.aload_n 0, 1) := by decide +kernel
theorem dX4_ticketsOf_29 : decode cX4_ticketsOf 29 = .ok (.getfield 23, 3) := by decide +kernel
theorem dX4_ticketsOf_32 : decode cX4_ticketsOf 32 = .ok (.iload 4, 2) := by decide +kernel
theorem dX4_ticketsOf_34 : decode cX4_ticketsOf 34 = .ok (.aaload, 1) := by decide +kernel
theorem dX4_ticketsOf_35 : decode cX4_ticketsOf 35 = .ok (.getfield 83, 3) := by decide +kernel
theorem dX4_ticketsOf_38 : decode cX4_ticketsOf 38 = .ok (.iload_n 2, 1) := by decide +kernel
theorem dX4_ticketsOf_39 : decode cX4_ticketsOf 39 = .ok (.if_icmp .ne 6, 3) := by decide +kernel
theorem dX4_ticketsOf_42 : decode cX4_ticketsOf 42 = .ok (.iinc 3 1, 3) := by decide +kernel
theorem dX4_ticketsOf_45 : decode cX4_ticketsOf 45 = .ok (.iinc 4 1, 3) := by decide +kernel
theorem dX4_ticketsOf_48 : decode cX4_ticketsOf 48 = .ok (.goto (-43), 3) := by decide +kernel
theorem dX4_ticketsOf_51 : decode cX4_ticketsOf 51 = .ok (.iload_n 3, 1) := by decide +kernel
theorem dX4_ticketsOf_52 : decode cX4_ticketsOf 52 = .ok (.ireturn, 1) := by decide +kernel
theorem dX4_debtOf_0 : decode cX4_debtOf 0 = .ok (.iconst 0, 1) := by decide +kernel
theorem dX4_debtOf_1 : decode cX4_debtOf 1 = .ok (.istore_n 2, 1) := by decide +kernel
theorem dX4_debtOf_2 : decode cX4_debtOf 2 = .ok (.iconst 0, 1) := by decide +kernel
theorem dX4_debtOf_3 : decode cX4_debtOf 3 = .ok (.istore_n 3, 1) := by decide +kernel
theorem dX4_debtOf_4 : decode cX4_debtOf 4 = .ok (.iload_n 3, 1) := by decide +kernel
theorem dX4_debtOf_5 : decode cX4_debtOf 5 = .ok (.aload_n 0, 1) := by decide +kernel
theorem dX4_debtOf_6 : decode cX4_debtOf 6 = .ok (.getfield 50, 3) := by decide +kernel
theorem dX4_debtOf_9 : decode cX4_debtOf 9 = .ok (.if_icmp .ge 38, 3) := by decide +kernel
theorem dX4_debtOf_12 : decode cX4_debtOf 12 = .ok (.aload_n 0, 1) := by decide +kernel
theorem dX4_debtOf_13 : decode cX4_debtOf 13 = .ok (.getfield 23, 3) := by decide +kernel
theorem dX4_debtOf_16 : decode cX4_debtOf 16 = .ok (.iload_n 3, 1) := by decide +kernel
theorem dX4_debtOf_17 : decode cX4_debtOf 17 = .ok (.aaload, 1) := by decide +kernel
theorem dX4_debtOf_18 : decode cX4_debtOf 18 = .ok (.getfield 89, 3) := by decide +kernel
theorem dX4_debtOf_21 : decode cX4_debtOf 21 = .ok (.iload_n 1, 1) := by decide +kernel
theorem dX4_debtOf_22 : decode cX4_debtOf 22 = .ok (.if_icmp .ne 19, 3) := by decide +kernel
theorem dX4_debtOf_25 : decode cX4_debtOf 25 = .ok (.iload_n 2, 1) := by decide +kernel
theorem dX4_debtOf_26 : decode cX4_debtOf 26 = .ok (.aload_n 0, 1) := by decide +kernel
theorem dX4_debtOf_27 : decode cX4_debtOf 27 = .ok (.getfield 23, 3) := by decide +kernel
theorem dX4_debtOf_30 : decode cX4_debtOf 30 = .ok (.iload_n 3, 1) := by decide +kernel
theorem dX4_debtOf_31 : decode cX4_debtOf 31 = .ok (.aaload, 1) := by decide +kernel
theorem dX4_debtOf_32 : decode cX4_debtOf 32 = .ok (.aload_n 0, 1) := by decide +kernel
theorem dX4_debtOf_33 : decode cX4_debtOf 33 = .ok (.getfield 65, 3) := by decide +kernel
theorem dX4_debtOf_36 : decode cX4_debtOf 36 = .ok (.invokevirtual 130, 3) := by decide +kernel
theorem dX4_debtOf_39 : decode cX4_debtOf 39 = .ok (.iadd, 1) := by decide +kernel
theorem dX4_debtOf_40 : decode cX4_debtOf 40 = .ok (.istore_n 2, 1) := by decide +kernel
theorem dX4_debtOf_41 : decode cX4_debtOf 41 = .ok (.iinc 3 1, 3) := by decide +kernel
theorem dX4_debtOf_44 : decode cX4_debtOf 44 = .ok (.goto (-40), 3) := by decide +kernel
theorem dX4_debtOf_47 : decode cX4_debtOf 47 = .ok (.iload_n 2, 1) := by decide +kernel
theorem dX4_debtOf_48 : decode cX4_debtOf 48 = .ok (.ireturn, 1) := by decide +kernel
theorem dX4_loansHeld_0 : decode cX4_loansHeld 0 = .ok (.iconst 0, 1) := by decide +kernel
theorem dX4_loansHeld_1 : decode cX4_loansHeld 1 = .ok (.istore_n 1, 1) := by decide +kernel
theorem dX4_loansHeld_2 : decode cX4_loansHeld 2 = .ok (.iconst 0, 1) := by decide +kernel
theorem dX4_loansHeld_3 : decode cX4_loansHeld 3 = .ok (.istore_n 2, 1) := by decide +kernel
theorem dX4_loansHeld_4 : decode cX4_loansHeld 4 = .ok (.iload_n 2, 1) := by decide +kernel
theorem dX4_loansHeld_5 : decode cX4_loansHeld 5 = .ok (.aload_n 0, 1) := by decide +kernel
theorem dX4_loansHeld_6 : decode cX4_loansHeld 6 = .ok (.getfield 50, 3) := by decide +kernel
theorem dX4_loansHeld_9 : decode cX4_loansHeld 9 = .ok (.if_icmp .ge 33, 3) := by decide +kernel
theorem dX4_loansHeld_12 : decode cX4_loansHeld 12 = .ok (.aload_n 0, 1) := by decide +kernel
theorem dX4_loansHeld_13 : decode cX4_loansHeld 13 = .ok (.getfield 23, 3) := by decide +kernel
theorem dX4_loansHeld_16 : decode cX4_loansHeld 16 = .ok (.iload_n 2, 1) := by decide +kernel
theorem dX4_loansHeld_17 : decode cX4_loansHeld 17 = .ok (.aaload, 1) := by decide +kernel
theorem dX4_loansHeld_18 : decode cX4_loansHeld 18 = .ok (.getfield 83, 3) := by decide +kernel
theorem dX4_loansHeld_21 : decode cX4_loansHeld 21 = .ok (.ifCond .ne 15, 3) := by decide +kernel
theorem dX4_loansHeld_24 : decode cX4_loansHeld 24 = .ok (.iload_n 1, 1) := by decide +kernel
theorem dX4_loansHeld_25 : decode cX4_loansHeld 25 = .ok (.aload_n 0, 1) := by decide +kernel
theorem dX4_loansHeld_26 : decode cX4_loansHeld 26 = .ok (.getfield 23, 3) := by decide +kernel
theorem dX4_loansHeld_29 : decode cX4_loansHeld 29 = .ok (.iload_n 2, 1) := by decide +kernel
theorem dX4_loansHeld_30 : decode cX4_loansHeld 30 = .ok (.aaload, 1) := by decide +kernel
theorem dX4_loansHeld_31 : decode cX4_loansHeld 31 = .ok (.getfield 143, 3) := by decide +kernel
theorem dX4_loansHeld_34 : decode cX4_loansHeld 34 = .ok (.iadd, 1) := by decide +kernel
theorem dX4_loansHeld_35 : decode cX4_loansHeld 35 = .ok (.istore_n 1, 1) := by decide +kernel
theorem dX4_loansHeld_36 : decode cX4_loansHeld 36 = .ok (.iinc 2 1, 3) := by decide +kernel
theorem dX4_loansHeld_39 : decode cX4_loansHeld 39 = .ok (.goto (-35), 3) := by decide +kernel
theorem dX4_loansHeld_42 : decode cX4_loansHeld 42 = .ok (.iload_n 1, 1) := by decide +kernel
theorem dX4_loansHeld_43 : decode cX4_loansHeld 43 = .ok (.ireturn, 1) := by decide +kernel
theorem dX4_tellCount_0 : decode cX4_tellCount 0 = .ok (.iload_n 1, 1) := by decide +kernel
theorem dX4_tellCount_1 : decode cX4_tellCount 1 = .ok (.tableswitch 112 0 9 #[55, 60, 65, 70, 75, 81, 87, 93, 99, 107], 55) := by decide +kernel
theorem dX4_tellCount_56 : decode cX4_tellCount 56 = .ok (.aload_n 0, 1) := by decide +kernel
theorem dX4_tellCount_57 : decode cX4_tellCount 57 = .ok (.getfield 65, 3) := by decide +kernel
theorem dX4_tellCount_60 : decode cX4_tellCount 60 = .ok (.ireturn, 1) := by decide +kernel
theorem dX4_tellCount_61 : decode cX4_tellCount 61 = .ok (.aload_n 0, 1) := by decide +kernel
theorem dX4_tellCount_62 : decode cX4_tellCount 62 = .ok (.getfield 11, 3) := by decide +kernel
theorem dX4_tellCount_65 : decode cX4_tellCount 65 = .ok (.ireturn, 1) := by decide +kernel
theorem dX4_tellCount_66 : decode cX4_tellCount 66 = .ok (.aload_n 0, 1) := by decide +kernel
theorem dX4_tellCount_67 : decode cX4_tellCount 67 = .ok (.getfield 43, 3) := by decide +kernel
theorem dX4_tellCount_70 : decode cX4_tellCount 70 = .ok (.ireturn, 1) := by decide +kernel
theorem dX4_tellCount_71 : decode cX4_tellCount 71 = .ok (.aload_n 0, 1) := by decide +kernel
theorem dX4_tellCount_72 : decode cX4_tellCount 72 = .ok (.getfield 50, 3) := by decide +kernel
theorem dX4_tellCount_75 : decode cX4_tellCount 75 = .ok (.ireturn, 1) := by decide +kernel
theorem dX4_tellCount_76 : decode cX4_tellCount 76 = .ok (.aload_n 0, 1) := by decide +kernel
theorem dX4_tellCount_77 : decode cX4_tellCount 77 = .ok (.iconst 0, 1) := by decide +kernel
theorem dX4_tellCount_78 : decode cX4_tellCount 78 = .ok (.invokevirtual 146, 3) := by decide +kernel
theorem dX4_tellCount_81 : decode cX4_tellCount 81 = .ok (.ireturn, 1) := by decide +kernel
theorem dX4_tellCount_82 : decode cX4_tellCount 82 = .ok (.aload_n 0, 1) := by decide +kernel
theorem dX4_tellCount_83 : decode cX4_tellCount 83 = .ok (.iconst 1, 1) := by decide +kernel
theorem dX4_tellCount_84 : decode cX4_tellCount 84 = .ok (.invokevirtual 146, 3) := by decide +kernel
theorem dX4_tellCount_87 : decode cX4_tellCount 87 = .ok (.ireturn, 1) := by decide +kernel
theorem dX4_tellCount_88 : decode cX4_tellCount 88 = .ok (.aload_n 0, 1) := by decide +kernel
theorem dX4_tellCount_89 : decode cX4_tellCount 89 = .ok (.iconst 2, 1) := by decide +kernel
theorem dX4_tellCount_90 : decode cX4_tellCount 90 = .ok (.invokevirtual 146, 3) := by decide +kernel
theorem dX4_tellCount_93 : decode cX4_tellCount 93 = .ok (.ireturn, 1) := by decide +kernel
theorem dX4_tellCount_94 : decode cX4_tellCount 94 = .ok (.aload_n 0, 1) := by decide +kernel
theorem dX4_tellCount_95 : decode cX4_tellCount 95 = .ok (.iconst 3, 1) := by decide +kernel
theorem dX4_tellCount_96 : decode cX4_tellCount 96 = .ok (.invokevirtual 146, 3) := by decide +kernel
theorem dX4_tellCount_99 : decode cX4_tellCount 99 = .ok (.ireturn, 1) := by decide +kernel
theorem dX4_tellCount_100 : decode cX4_tellCount 100 = .ok (.aload_n 0, 1) := by decide +kernel
theorem dX4_tellCount_101 : decode cX4_tellCount 101 = .ok (.getfield 36, 3) := by decide +kernel
theorem dX4_tellCount_104 : decode cX4_tellCount 104 = .ok (.invokevirtual 149, 3) := by decide +kernel
theorem dX4_tellCount_107 : decode cX4_tellCount 107 = .ok (.ireturn, 1) := by decide +kernel
theorem dX4_tellCount_108 : decode cX4_tellCount 108 = .ok (.aload_n 0, 1) := by decide +kernel
theorem dX4_tellCount_109 : decode cX4_tellCount 109 = .ok (.invokevirtual 153, 3) := by decide +kernel
theorem dX4_tellCount_112 : decode cX4_tellCount 112 = .ok (.ireturn, 1) := by decide +kernel
theorem dX4_tellCount_113 : decode cX4_tellCount 113 = .ok (.aload_n 0, 1) := by decide +kernel
theorem dX4_tellCount_114 : decode cX4_tellCount 114 = .ok (.getfield 80, 3) := by decide +kernel
theorem dX4_tellCount_117 : decode cX4_tellCount 117 = .ok (.ireturn, 1) := by decide +kernel
theorem dX4_tellCustomer_0 : decode cX4_tellCustomer 0 = .ok (.iload_n 2, 1) := by decide +kernel
theorem dX4_tellCustomer_1 : decode cX4_tellCustomer 1 = .ok (.tableswitch 64 0 3 #[31, 41, 51, 58], 31) := by decide +kernel
theorem dX4_tellCustomer_32 : decode cX4_tellCustomer 32 = .ok (.aload_n 0, 1) := by decide +kernel
theorem dX4_tellCustomer_33 : decode cX4_tellCustomer 33 = .ok (.getfield 17, 3) := by decide +kernel
theorem dX4_tellCustomer_36 : decode cX4_tellCustomer 36 = .ok (.iload_n 1, 1) := by decide +kernel
theorem dX4_tellCustomer_37 : decode cX4_tellCustomer 37 = .ok (.aaload, 1) := by decide +kernel
theorem dX4_tellCustomer_38 : decode cX4_tellCustomer 38 = .ok (.getfield 75, 3) := by decide +kernel
theorem dX4_tellCustomer_41 : decode cX4_tellCustomer 41 = .ok (.ireturn, 1) := by decide +kernel
theorem dX4_tellCustomer_42 : decode cX4_tellCustomer 42 = .ok (.aload_n 0, 1) := by decide +kernel
theorem dX4_tellCustomer_43 : decode cX4_tellCustomer 43 = .ok (.getfield 17, 3) := by decide +kernel
theorem dX4_tellCustomer_46 : decode cX4_tellCustomer 46 = .ok (.iload_n 1, 1) := by decide +kernel
theorem dX4_tellCustomer_47 : decode cX4_tellCustomer 47 = .ok (.aaload, 1) := by decide +kernel
theorem dX4_tellCustomer_48 : decode cX4_tellCustomer 48 = .ok (.getfield 156, 3) := by decide +kernel
theorem dX4_tellCustomer_51 : decode cX4_tellCustomer 51 = .ok (.ireturn, 1) := by decide +kernel
theorem dX4_tellCustomer_52 : decode cX4_tellCustomer 52 = .ok (.aload_n 0, 1) := by decide +kernel
theorem dX4_tellCustomer_53 : decode cX4_tellCustomer 53 = .ok (.iload_n 1, 1) := by decide +kernel
theorem dX4_tellCustomer_54 : decode cX4_tellCustomer 54 = .ok (.iconst 0, 1) := by decide +kernel
theorem dX4_tellCustomer_55 : decode cX4_tellCustomer 55 = .ok (.invokevirtual 159, 3) := by decide +kernel
theorem dX4_tellCustomer_58 : decode cX4_tellCustomer 58 = .ok (.ireturn, 1) := by decide +kernel
theorem dX4_tellCustomer_59 : decode cX4_tellCustomer 59 = .ok (.aload_n 0, 1) := by decide +kernel
theorem dX4_tellCustomer_60 : decode cX4_tellCustomer 60 = .ok (.iload_n 1, 1) := by decide +kernel
theorem dX4_tellCustomer_61 : decode cX4_tellCustomer 61 = .ok (.invokevirtual 162, 3) := by decide +kernel
theorem dX4_tellCustomer_64 : decode cX4_tellCustomer 64 = .ok (.ireturn, 1) := by decide +kernel
theorem dX4_tellCustomer_65 : decode cX4_tellCustomer 65 = .ok (.aload_n 0, 1) := by decide +kernel
theorem dX4_tellCustomer_66 : decode cX4_tellCustomer 66 = .ok (.iload_n 1, 1) := by decide +kernel
theorem dX4_tellCustomer_67 : decode cX4_tellCustomer 67 = .ok (.iconst 1, 1) := by decide +kernel
theorem dX4_tellCustomer_68 : decode cX4_tellCustomer 68 = .ok (.invokevirtual 159, 3) := by decide +kernel
theorem dX4_tellCustomer_71 : decode cX4_tellCustomer 71 = .ok (.ireturn, 1) := by decide +kernel
theorem dX4_tellTicket_0 : decode cX4_tellTicket 0 = .ok (.aload_n 0, 1) := by decide +kernel
theorem dX4_tellTicket_1 : decode cX4_tellTicket 1 = .ok (.getfield 23, 3) := by decide +kernel
theorem dX4_tellTicket_4 : decode cX4_tellTicket 4 = .ok (.iload_n 1, 1) := by decide +kernel
theorem dX4_tellTicket_5 : decode cX4_tellTicket 5 = .ok (.aaload, 1) := by decide +kernel
theorem dX4_tellTicket_6 : decode cX4_tellTicket 6 = .ok (.astore_n 3, 1) := by decide +kernel
theorem dX4_tellTicket_7 : decode cX4_tellTicket 7 = .ok (.iload_n 2, 1) := by decide +kernel
theorem dX4_tellTicket_8 : decode cX4_tellTicket 8 = .ok (.tableswitch 114 0 9 #[56, 61, 66, 71, 76, 81, 86, 91, 100, 109], 56) := by decide +kernel
theorem dX4_tellTicket_64 : decode cX4_tellTicket 64 = .ok (.aload_n 3, 1) := by decide +kernel
theorem dX4_tellTicket_65 : decode cX4_tellTicket 65 = .ok (.getfield 89, 3) := by decide +kernel
theorem dX4_tellTicket_68 : decode cX4_tellTicket 68 = .ok (.ireturn, 1) := by decide +kernel
theorem dX4_tellTicket_69 : decode cX4_tellTicket 69 = .ok (.aload_n 3, 1) := by decide +kernel
theorem dX4_tellTicket_70 : decode cX4_tellTicket 70 = .ok (.getfield 165, 3) := by decide +kernel
theorem dX4_tellTicket_73 : decode cX4_tellTicket 73 = .ok (.ireturn, 1) := by decide +kernel
theorem dX4_tellTicket_74 : decode cX4_tellTicket 74 = .ok (.aload_n 3, 1) := by decide +kernel
theorem dX4_tellTicket_75 : decode cX4_tellTicket 75 = .ok (.getfield 133, 3) := by decide +kernel
theorem dX4_tellTicket_78 : decode cX4_tellTicket 78 = .ok (.ireturn, 1) := by decide +kernel
theorem dX4_tellTicket_79 : decode cX4_tellTicket 79 = .ok (.aload_n 3, 1) := by decide +kernel
theorem dX4_tellTicket_80 : decode cX4_tellTicket 80 = .ok (.getfield 168, 3) := by decide +kernel
theorem dX4_tellTicket_83 : decode cX4_tellTicket 83 = .ok (.ireturn, 1) := by decide +kernel
theorem dX4_tellTicket_84 : decode cX4_tellTicket 84 = .ok (.aload_n 3, 1) := by decide +kernel
theorem dX4_tellTicket_85 : decode cX4_tellTicket 85 = .ok (.getfield 143, 3) := by decide +kernel
theorem dX4_tellTicket_88 : decode cX4_tellTicket 88 = .ok (.ireturn, 1) := by decide +kernel
theorem dX4_tellTicket_89 : decode cX4_tellTicket 89 = .ok (.aload_n 3, 1) := by decide +kernel
theorem dX4_tellTicket_90 : decode cX4_tellTicket 90 = .ok (.getfield 113, 3) := by decide +kernel
theorem dX4_tellTicket_93 : decode cX4_tellTicket 93 = .ok (.ireturn, 1) := by decide +kernel
theorem dX4_tellTicket_94 : decode cX4_tellTicket 94 = .ok (.aload_n 3, 1) := by decide +kernel
theorem dX4_tellTicket_95 : decode cX4_tellTicket 95 = .ok (.getfield 83, 3) := by decide +kernel
theorem dX4_tellTicket_98 : decode cX4_tellTicket 98 = .ok (.ireturn, 1) := by decide +kernel
theorem dX4_tellTicket_99 : decode cX4_tellTicket 99 = .ok (.aload_n 0, 1) := by decide +kernel
theorem dX4_tellTicket_100 : decode cX4_tellTicket 100 = .ok (.getfield 36, 3) := by decide +kernel
theorem dX4_tellTicket_103 : decode cX4_tellTicket 103 = .ok (.iload_n 1, 1) := by decide +kernel
theorem dX4_tellTicket_104 : decode cX4_tellTicket 104 = .ok (.invokevirtual 171, 3) := by decide +kernel
theorem dX4_tellTicket_107 : decode cX4_tellTicket 107 = .ok (.ireturn, 1) := by decide +kernel
theorem dX4_tellTicket_108 : decode cX4_tellTicket 108 = .ok (.aload_n 0, 1) := by decide +kernel
theorem dX4_tellTicket_109 : decode cX4_tellTicket 109 = .ok (.getfield 36, 3) := by decide +kernel
theorem dX4_tellTicket_112 : decode cX4_tellTicket 112 = .ok (.iload_n 1, 1) := by decide +kernel
theorem dX4_tellTicket_113 : decode cX4_tellTicket 113 = .ok (.invokevirtual 174, 3) := by decide +kernel
theorem dX4_tellTicket_116 : decode cX4_tellTicket 116 = .ok (.ireturn, 1) := by decide +kernel
theorem dX4_tellTicket_117 : decode cX4_tellTicket 117 = .ok (.aload_n 3, 1) := by decide +kernel
theorem dX4_tellTicket_118 : decode cX4_tellTicket 118 = .ok (.getfield 123, 3) := by decide +kernel
theorem dX4_tellTicket_121 : decode cX4_tellTicket 121 = .ok (.ireturn, 1) := by decide +kernel
theorem dX4_tellTicket_122 : decode cX4_tellTicket 122 = .ok (.aload_n 3, 1) := by decide +kernel
theorem dX4_tellTicket_123 : decode cX4_tellTicket 123 = .ok (.getfield 177, 3) := by decide +kernel
theorem dX4_tellTicket_126 : decode cX4_tellTicket 126 = .ok (.ireturn, 1) := by decide +kernel
theorem dX4_copyFrom_0 : decode cX4_copyFrom 0 = .ok (.aload_n 0, 1) := by decide +kernel
theorem dX4_copyFrom_1 : decode cX4_copyFrom 1 = .ok (.aload_n 1, 1) := by decide +kernel
theorem dX4_copyFrom_2 : decode cX4_copyFrom 2 = .ok (.getfield 65, 3) := by decide +kernel
theorem dX4_copyFrom_5 : decode cX4_copyFrom 5 = .ok (.putfield 65, 3) := by decide +kernel
theorem dX4_copyFrom_8 : decode cX4_copyFrom 8 = .ok (.aload_n 0, 1) := by decide +kernel
theorem dX4_copyFrom_9 : decode cX4_copyFrom 9 = .ok (.aload_n 1, 1) := by decide +kernel
theorem dX4_copyFrom_10 : decode cX4_copyFrom 10 = .ok (.getfield 11, 3) := by decide +kernel
theorem dX4_copyFrom_13 : decode cX4_copyFrom 13 = .ok (.putfield 11, 3) := by decide +kernel
theorem dX4_copyFrom_16 : decode cX4_copyFrom 16 = .ok (.aload_n 0, 1) := by decide +kernel
theorem dX4_copyFrom_17 : decode cX4_copyFrom 17 = .ok (.aload_n 1, 1) := by decide +kernel
theorem dX4_copyFrom_18 : decode cX4_copyFrom 18 = .ok (.getfield 80, 3) := by decide +kernel
theorem dX4_copyFrom_21 : decode cX4_copyFrom 21 = .ok (.putfield 80, 3) := by decide +kernel
theorem dX4_copyFrom_24 : decode cX4_copyFrom 24 = .ok (.aload_n 0, 1) := by decide +kernel
theorem dX4_copyFrom_25 : decode cX4_copyFrom 25 = .ok (.aload_n 1, 1) := by decide +kernel
theorem dX4_copyFrom_26 : decode cX4_copyFrom 26 = .ok (.getfield 43, 3) := by decide +kernel
theorem dX4_copyFrom_29 : decode cX4_copyFrom 29 = .ok (.putfield 43, 3) := by decide +kernel
theorem dX4_copyFrom_32 : decode cX4_copyFrom 32 = .ok (.aload_n 0, 1) := by decide +kernel
theorem dX4_copyFrom_33 : decode cX4_copyFrom 33 = .ok (.aload_n 1, 1) := by decide +kernel
theorem dX4_copyFrom_34 : decode cX4_copyFrom 34 = .ok (.getfield 50, 3) := by decide +kernel
theorem dX4_copyFrom_37 : decode cX4_copyFrom 37 = .ok (.putfield 50, 3) := by decide +kernel
theorem dX4_copyFrom_40 : decode cX4_copyFrom 40 = .ok (.iconst 0, 1) := by decide +kernel
theorem dX4_copyFrom_41 : decode cX4_copyFrom 41 = .ok (.istore_n 2, 1) := by decide +kernel
theorem dX4_copyFrom_42 : decode cX4_copyFrom 42 = .ok (.iload_n 2, 1) := by decide +kernel
theorem dX4_copyFrom_43 : decode cX4_copyFrom 43 = .ok (.aload_n 0, 1) := by decide +kernel
theorem dX4_copyFrom_44 : decode cX4_copyFrom 44 = .ok (.getfield 43, 3) := by decide +kernel
theorem dX4_copyFrom_47 : decode cX4_copyFrom 47 = .ok (.if_icmp .ge 24, 3) := by decide +kernel
theorem dX4_copyFrom_50 : decode cX4_copyFrom 50 = .ok (.aload_n 0, 1) := by decide +kernel
theorem dX4_copyFrom_51 : decode cX4_copyFrom 51 = .ok (.getfield 17, 3) := by decide +kernel
theorem dX4_copyFrom_54 : decode cX4_copyFrom 54 = .ok (.iload_n 2, 1) := by decide +kernel
theorem dX4_copyFrom_55 : decode cX4_copyFrom 55 = .ok (.aaload, 1) := by decide +kernel
theorem dX4_copyFrom_56 : decode cX4_copyFrom 56 = .ok (.aload_n 1, 1) := by decide +kernel
theorem dX4_copyFrom_57 : decode cX4_copyFrom 57 = .ok (.getfield 17, 3) := by decide +kernel
theorem dX4_copyFrom_60 : decode cX4_copyFrom 60 = .ok (.iload_n 2, 1) := by decide +kernel
theorem dX4_copyFrom_61 : decode cX4_copyFrom 61 = .ok (.aaload, 1) := by decide +kernel
theorem dX4_copyFrom_62 : decode cX4_copyFrom 62 = .ok (.invokevirtual 180, 3) := by decide +kernel
theorem dX4_copyFrom_65 : decode cX4_copyFrom 65 = .ok (.iinc 2 1, 3) := by decide +kernel
theorem dX4_copyFrom_68 : decode cX4_copyFrom 68 = .ok (.goto (-26), 3) := by decide +kernel
theorem dX4_copyFrom_71 : decode cX4_copyFrom 71 = .ok (.iconst 0, 1) := by decide +kernel
theorem dX4_copyFrom_72 : decode cX4_copyFrom 72 = .ok (.istore_n 2, 1) := by decide +kernel
theorem dX4_copyFrom_73 : decode cX4_copyFrom 73 = .ok (.iload_n 2, 1) := by decide +kernel
theorem dX4_copyFrom_74 : decode cX4_copyFrom 74 = .ok (.aload_n 0, 1) := by decide +kernel
theorem dX4_copyFrom_75 : decode cX4_copyFrom 75 = .ok (.getfield 50, 3) := by decide +kernel
theorem dX4_copyFrom_78 : decode cX4_copyFrom 78 = .ok (.if_icmp .ge 24, 3) := by decide +kernel
theorem dX4_copyFrom_81 : decode cX4_copyFrom 81 = .ok (.aload_n 0, 1) := by decide +kernel
theorem dX4_copyFrom_82 : decode cX4_copyFrom 82 = .ok (.getfield 23, 3) := by decide +kernel
theorem dX4_copyFrom_85 : decode cX4_copyFrom 85 = .ok (.iload_n 2, 1) := by decide +kernel
theorem dX4_copyFrom_86 : decode cX4_copyFrom 86 = .ok (.aaload, 1) := by decide +kernel
theorem dX4_copyFrom_87 : decode cX4_copyFrom 87 = .ok (.aload_n 1, 1) := by decide +kernel
theorem dX4_copyFrom_88 : decode cX4_copyFrom 88 = .ok (.getfield 23, 3) := by decide +kernel
theorem dX4_copyFrom_91 : decode cX4_copyFrom 91 = .ok (.iload_n 2, 1) := by decide +kernel
theorem dX4_copyFrom_92 : decode cX4_copyFrom 92 = .ok (.aaload, 1) := by decide +kernel
theorem dX4_copyFrom_93 : decode cX4_copyFrom 93 = .ok (.invokevirtual 184, 3) := by decide +kernel
theorem dX4_copyFrom_96 : decode cX4_copyFrom 96 = .ok (.iinc 2 1, 3) := by decide +kernel
theorem dX4_copyFrom_99 : decode cX4_copyFrom 99 = .ok (.goto (-26), 3) := by decide +kernel
theorem dX4_copyFrom_102 : decode cX4_copyFrom 102 = .ok (.iconst 0, 1) := by decide +kernel
theorem dX4_copyFrom_103 : decode cX4_copyFrom 103 = .ok (.istore_n 2, 1) := by decide +kernel
theorem dX4_copyFrom_104 : decode cX4_copyFrom 104 = .ok (.iload_n 2, 1) := by decide +kernel
theorem dX4_copyFrom_105 : decode cX4_copyFrom 105 = .ok (.bipush 7, 2) := by decide +kernel
theorem dX4_copyFrom_107 : decode cX4_copyFrom 107 = .ok (.if_icmp .ge 36, 3) := by decide +kernel
theorem dX4_copyFrom_110 : decode cX4_copyFrom 110 = .ok (.aload_n 0, 1) := by decide +kernel
theorem dX4_copyFrom_111 : decode cX4_copyFrom 111 = .ok (.getfield 29, 3) := by decide +kernel
theorem dX4_copyFrom_114 : decode cX4_copyFrom 114 = .ok (.iload_n 2, 1) := by decide +kernel
theorem dX4_copyFrom_115 : decode cX4_copyFrom 115 = .ok (.aaload, 1) := by decide +kernel
theorem dX4_copyFrom_116 : decode cX4_copyFrom 116 = .ok (.aload_n 1, 1) := by decide +kernel
theorem dX4_copyFrom_117 : decode cX4_copyFrom 117 = .ok (.getfield 29, 3) := by decide +kernel
theorem dX4_copyFrom_120 : decode cX4_copyFrom 120 = .ok (.iload_n 2, 1) := by decide +kernel
theorem dX4_copyFrom_121 : decode cX4_copyFrom 121 = .ok (.aaload, 1) := by decide +kernel
theorem dX4_copyFrom_122 : decode cX4_copyFrom 122 = .ok (.getfield 187, 3) := by decide +kernel
theorem dX4_copyFrom_125 : decode cX4_copyFrom 125 = .ok (.aload_n 1, 1) := by decide +kernel
theorem dX4_copyFrom_126 : decode cX4_copyFrom 126 = .ok (.getfield 29, 3) := by decide +kernel
theorem dX4_copyFrom_129 : decode cX4_copyFrom 129 = .ok (.iload_n 2, 1) := by decide +kernel
theorem dX4_copyFrom_130 : decode cX4_copyFrom 130 = .ok (.aaload, 1) := by decide +kernel
theorem dX4_copyFrom_131 : decode cX4_copyFrom 131 = .ok (.getfield 188, 3) := by decide +kernel
theorem dX4_copyFrom_134 : decode cX4_copyFrom 134 = .ok (.invokevirtual 191, 3) := by decide +kernel
theorem dX4_copyFrom_137 : decode cX4_copyFrom 137 = .ok (.iinc 2 1, 3) := by decide +kernel
theorem dX4_copyFrom_140 : decode cX4_copyFrom 140 = .ok (.goto (-36), 3) := by decide +kernel
theorem dX4_copyFrom_143 : decode cX4_copyFrom 143 = .ok (.aload_n 0, 1) := by decide +kernel
theorem dX4_copyFrom_144 : decode cX4_copyFrom 144 = .ok (.getfield 36, 3) := by decide +kernel
theorem dX4_copyFrom_147 : decode cX4_copyFrom 147 = .ok (.aload_n 1, 1) := by decide +kernel
theorem dX4_copyFrom_148 : decode cX4_copyFrom 148 = .ok (.getfield 36, 3) := by decide +kernel
theorem dX4_copyFrom_151 : decode cX4_copyFrom 151 = .ok (.invokevirtual 194, 3) := by decide +kernel
theorem dX4_copyFrom_154 : decode cX4_copyFrom 154 = .ok (.return_, 1) := by decide +kernel
