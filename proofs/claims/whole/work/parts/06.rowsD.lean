theorem dX7_init_0 : decode cX7_init 0 = .ok (.aload_n 0, 1) := by decide +kernel
theorem dX7_init_1 : decode cX7_init 1 = .ok (.aload_n 1, 1) := by decide +kernel
theorem dX7_init_2 : decode cX7_init 2 = .ok (.putfield 3, 3) := by decide +kernel
theorem dX7_init_5 : decode cX7_init 5 = .ok (.aload_n 0, 1) := by decide +kernel
theorem dX7_init_6 : decode cX7_init 6 = .ok (.invokespecial 9, 3) := by decide +kernel
theorem dX7_init_9 : decode cX7_init 9 = .ok (.aload_n 0, 1) := by decide +kernel
theorem dX7_init_10 : decode cX7_init 10 = .ok (.sipush 400, 3) := by decide +kernel
theorem dX7_init_13 : decode cX7_init 13 = .ok (.putfield 15, 3) := by decide +kernel
theorem dX7_init_16 : decode cX7_init 16 = .ok (.aload_n 0, 1) := by decide +kernel
theorem dX7_init_17 : decode cX7_init 17 = .ok (.bipush 10, 2) := by decide +kernel
theorem dX7_init_19 : decode cX7_init 19 = .ok (.newarray .int, 2) := by decide +kernel
theorem dX7_init_21 : decode cX7_init 21 = .ok (.putfield 19, 3) := by decide +kernel
theorem dX7_init_24 : decode cX7_init 24 = .ok (.aload_n 0, 1) := by decide +kernel
theorem dX7_init_25 : decode cX7_init 25 = .ok (.bipush 10, 2) := by decide +kernel
theorem dX7_init_27 : decode cX7_init 27 = .ok (.newarray .int, 2) := by decide +kernel
theorem dX7_init_29 : decode cX7_init 29 = .ok (.putfield 23, 3) := by decide +kernel
theorem dX7_init_32 : decode cX7_init 32 = .ok (.aload_n 0, 1) := by decide +kernel
theorem dX7_init_33 : decode cX7_init 33 = .ok (.sipush 440, 3) := by decide +kernel
theorem dX7_init_36 : decode cX7_init 36 = .ok (.newarray .int, 2) := by decide +kernel
theorem dX7_init_38 : decode cX7_init 38 = .ok (.putfield 26, 3) := by decide +kernel
theorem dX7_init_41 : decode cX7_init 41 = .ok (.aload_n 0, 1) := by decide +kernel
theorem dX7_init_42 : decode cX7_init 42 = .ok (.bipush 60, 2) := by decide +kernel
theorem dX7_init_44 : decode cX7_init 44 = .ok (.newarray .int, 2) := by decide +kernel
theorem dX7_init_46 : decode cX7_init 46 = .ok (.putfield 29, 3) := by decide +kernel
theorem dX7_init_49 : decode cX7_init 49 = .ok (.iconst 0, 1) := by decide +kernel
theorem dX7_init_50 : decode cX7_init 50 = .ok (.istore_n 2, 1) := by decide +kernel
theorem dX7_init_51 : decode cX7_init 51 = .ok (.iload_n 2, 1) := by decide +kernel
theorem dX7_init_52 : decode cX7_init 52 = .ok (.bipush 60, 2) := by decide +kernel
theorem dX7_init_54 : decode cX7_init 54 = .ok (.if_icmp .ge 16, 3) := by decide +kernel
theorem dX7_init_57 : decode cX7_init 57 = .ok (.aload_n 0, 1) := by decide +kernel
theorem dX7_init_58 : decode cX7_init 58 = .ok (.getfield 29, 3) := by decide +kernel
theorem dX7_init_61 : decode cX7_init 61 = .ok (.iload_n 2, 1) := by decide +kernel
theorem dX7_init_62 : decode cX7_init 62 = .ok (.iconst (-1), 1) := by decide +kernel
theorem dX7_init_63 : decode cX7_init 63 = .ok (.iastore, 1) := by decide +kernel
theorem dX7_init_64 : decode cX7_init 64 = .ok (.iinc 2 1, 3) := by decide +kernel
theorem dX7_init_67 : decode cX7_init 67 = .ok (.goto (-16), 3) := by decide +kernel
theorem dX7_init_70 : decode cX7_init 70 = .ok (.return_, 1) := by decide +kernel
theorem dX7_copy_0 : decode cX7_copy 0 = .ok (.aload_n 1, 1) := by decide +kernel
theorem dX7_copy_1 : decode cX7_copy 1 = .ok (.iconst 0, 1) := by decide +kernel
theorem dX7_copy_2 : decode cX7_copy 2 = .ok (.aload_n 2, 1) := by decide +kernel
theorem dX7_copy_3 : decode cX7_copy 3 = .ok (.iconst 0, 1) := by decide +kernel
theorem dX7_copy_4 : decode cX7_copy 4 = .ok (.aload_n 1, 1) := by decide +kernel
theorem dX7_copy_5 : decode cX7_copy 5 = .ok (.arraylength, 1) := by decide +kernel
theorem dX7_copy_6 : decode cX7_copy 6 = .ok (.invokestatic 32, 3) := by decide +kernel
theorem dX7_copy_9 : decode cX7_copy 9 = .ok (.return_, 1) := by decide +kernel
theorem dX7_become_0 : decode cX7_become 0 = .ok (.aload_n 0, 1) := by decide +kernel
theorem dX7_become_1 : decode cX7_become 1 = .ok (.aload_n 1, 1) := by decide +kernel
theorem dX7_become_2 : decode cX7_become 2 = .ok (.getfield 38, 3) := by decide +kernel
theorem dX7_become_5 : decode cX7_become 5 = .ok (.putfield 38, 3) := by decide +kernel
theorem dX7_become_8 : decode cX7_become 8 = .ok (.aload_n 0, 1) := by decide +kernel
theorem dX7_become_9 : decode cX7_become 9 = .ok (.aload_n 1, 1) := by decide +kernel
theorem dX7_become_10 : decode cX7_become 10 = .ok (.getfield 15, 3) := by decide +kernel
theorem dX7_become_13 : decode cX7_become 13 = .ok (.putfield 15, 3) := by decide +kernel
theorem dX7_become_16 : decode cX7_become 16 = .ok (.aload_n 0, 1) := by decide +kernel
theorem dX7_become_17 : decode cX7_become 17 = .ok (.aload_n 1, 1) := by decide +kernel
theorem dX7_become_18 : decode cX7_become 18 = .ok (.getfield 41, 3) := by decide +kernel
theorem dX7_become_21 : decode cX7_become 21 = .ok (.putfield 41, 3) := by decide +kernel
theorem dX7_become_24 : decode cX7_become 24 = .ok (.aload_n 0, 1) := by decide +kernel
theorem dX7_become_25 : decode cX7_become 25 = .ok (.aload_n 1, 1) := by decide +kernel
theorem dX7_become_26 : decode cX7_become 26 = .ok (.getfield 44, 3) := by decide +kernel
theorem dX7_become_29 : decode cX7_become 29 = .ok (.putfield 44, 3) := by decide +kernel
theorem dX7_become_32 : decode cX7_become 32 = .ok (.aload_n 0, 1) := by decide +kernel
theorem dX7_become_33 : decode cX7_become 33 = .ok (.aload_n 1, 1) := by decide +kernel
theorem dX7_become_34 : decode cX7_become 34 = .ok (.getfield 19, 3) := by decide +kernel
theorem dX7_become_37 : decode cX7_become 37 = .ok (.aload_n 0, 1) := by decide +kernel
theorem dX7_become_38 : decode cX7_become 38 = .ok (.getfield 19, 3) := by decide +kernel
theorem dX7_become_41 : decode cX7_become 41 = .ok (.invokevirtual 47, 3) := by decide +kernel
theorem dX7_become_44 : decode cX7_become 44 = .ok (.aload_n 0, 1) := by decide +kernel
theorem dX7_become_45 : decode cX7_become 45 = .ok (.aload_n 1, 1) := by decide +kernel
theorem dX7_become_46 : decode cX7_become 46 = .ok (.getfield 23, 3) := by decide +kernel
theorem dX7_become_49 : decode cX7_become 49 = .ok (.aload_n 0, 1) := by decide +kernel
theorem dX7_become_50 : decode cX7_become 50 = .ok (.getfield 23, 3) := by decide +kernel
theorem dX7_become_53 : decode cX7_become 53 = .ok (.invokevirtual 47, 3) := by decide +kernel
theorem dX7_become_56 : decode cX7_become 56 = .ok (.aload_n 0, 1) := by decide +kernel
theorem dX7_become_57 : decode cX7_become 57 = .ok (.aload_n 1, 1) := by decide +kernel
theorem dX7_become_58 : decode cX7_become 58 = .ok (.getfield 26, 3) := by decide +kernel
theorem dX7_become_61 : decode cX7_become 61 = .ok (.aload_n 0, 1) := by decide +kernel
theorem dX7_become_62 : decode cX7_become 62 = .ok (.getfield 26, 3) := by decide +kernel
theorem dX7_become_65 : decode cX7_become 65 = .ok (.invokevirtual 47, 3) := by decide +kernel
theorem dX7_become_68 : decode cX7_become 68 = .ok (.aload_n 0, 1) := by decide +kernel
theorem dX7_become_69 : decode cX7_become 69 = .ok (.aload_n 1, 1) := by decide +kernel
theorem dX7_become_70 : decode cX7_become 70 = .ok (.getfield 29, 3) := by decide +kernel
theorem dX7_become_73 : decode cX7_become 73 = .ok (.aload_n 0, 1) := by decide +kernel
theorem dX7_become_74 : decode cX7_become 74 = .ok (.getfield 29, 3) := by decide +kernel
theorem dX7_become_77 : decode cX7_become 77 = .ok (.invokevirtual 47, 3) := by decide +kernel
theorem dX7_become_80 : decode cX7_become 80 = .ok (.return_, 1) := by decide +kernel
theorem dX7_get_0 : decode cX7_get 0 = .ok (.aload_n 0, 1) := by decide +kernel
theorem dX7_get_1 : decode cX7_get 1 = .ok (.getfield 26, 3) := by decide +kernel
theorem dX7_get_4 : decode cX7_get 4 = .ok (.bipush 11, 2) := by decide +kernel
theorem dX7_get_6 : decode cX7_get 6 = .ok (.iload_n 1, 1) := by decide +kernel
theorem dX7_get_7 : decode cX7_get 7 = .ok (.imul, 1) := by decide +kernel
theorem dX7_get_8 : decode cX7_get 8 = .ok (.iload_n 2, 1) := by decide +kernel
theorem dX7_get_9 : decode cX7_get 9 = .ok (.iadd, 1) := by decide +kernel
theorem dX7_get_10 : decode cX7_get 10 = .ok (.iaload, 1) := by decide +kernel
theorem dX7_get_11 : decode cX7_get 11 = .ok (.ireturn, 1) := by decide +kernel
theorem dX7_set_0 : decode cX7_set 0 = .ok (.aload_n 0, 1) := by decide +kernel
theorem dX7_set_1 : decode cX7_set 1 = .ok (.getfield 26, 3) := by decide +kernel
theorem dX7_set_4 : decode cX7_set 4 = .ok (.bipush 11, 2) := by decide +kernel
theorem dX7_set_6 : decode cX7_set 6 = .ok (.iload_n 1, 1) := by decide +kernel
theorem dX7_set_7 : decode cX7_set 7 = .ok (.imul, 1) := by decide +kernel
theorem dX7_set_8 : decode cX7_set 8 = .ok (.iload_n 2, 1) := by decide +kernel
theorem dX7_set_9 : decode cX7_set 9 = .ok (.iadd, 1) := by decide +kernel
theorem dX7_set_10 : decode cX7_set 10 = .ok (.iload_n 3, 1) := by decide +kernel
theorem dX7_set_11 : decode cX7_set 11 = .ok (.iastore, 1) := by decide +kernel
theorem dX7_set_12 : decode cX7_set 12 = .ok (.return_, 1) := by decide +kernel
theorem dX7_gap_0 : decode cX7_gap 0 = .ok (.iconst 0, 1) := by decide +kernel
theorem dX7_gap_1 : decode cX7_gap 1 = .ok (.istore_n 2, 1) := by decide +kernel
theorem dX7_gap_2 : decode cX7_gap 2 = .ok (.iload_n 2, 1) := by decide +kernel
theorem dX7_gap_3 : decode cX7_gap 3 = .ok (.iconst 3, 1) := by decide +kernel
theorem dX7_gap_4 : decode cX7_gap 4 = .ok (.if_icmp .ge 67, 3) := by decide +kernel
theorem dX7_gap_7 : decode cX7_gap 7 = .ok (.iconst 0, 1) := by decide +kernel
theorem dX7_gap_8 : decode cX7_gap 8 = .ok (.istore_n 3, 1) := by decide +kernel
theorem dX7_gap_9 : decode cX7_gap 9 = .ok (.getstatic 51, 3) := by decide +kernel
theorem dX7_gap_12 : decode cX7_gap 12 = .ok (.iload_n 2, 1) := by decide +kernel
theorem dX7_gap_13 : decode cX7_gap 13 = .ok (.iaload, 1) := by decide +kernel
theorem dX7_gap_14 : decode cX7_gap 14 = .ok (.istore 4, 2) := by decide +kernel
theorem dX7_gap_16 : decode cX7_gap 16 = .ok (.iload 4, 2) := by decide +kernel
theorem dX7_gap_18 : decode cX7_gap 18 = .ok (.getstatic 51, 3) := by decide +kernel
theorem dX7_gap_21 : decode cX7_gap 21 = .ok (.iload_n 2, 1) := by decide +kernel
theorem dX7_gap_22 : decode cX7_gap 22 = .ok (.iconst 1, 1) := by decide +kernel
theorem dX7_gap_23 : decode cX7_gap 23 = .ok (.iadd, 1) := by decide +kernel
theorem dX7_gap_24 : decode cX7_gap 24 = .ok (.iaload, 1) := by decide +kernel
theorem dX7_gap_25 : decode cX7_gap 25 = .ok (.if_icmp .ge 40, 3) := by decide +kernel
theorem dX7_gap_28 : decode cX7_gap 28 = .ok (.aload_n 0, 1) := by decide +kernel
theorem dX7_gap_29 : decode cX7_gap 29 = .ok (.getfield 29, 3) := by decide +kernel
theorem dX7_gap_32 : decode cX7_gap 32 = .ok (.iload 4, 2) := by decide +kernel
theorem dX7_gap_34 : decode cX7_gap 34 = .ok (.iaload, 1) := by decide +kernel
theorem dX7_gap_35 : decode cX7_gap 35 = .ok (.iconst (-1), 1) := by decide +kernel
theorem dX7_gap_36 : decode cX7_gap 36 = .ok (.if_icmp .ne 9, 3) := by decide +kernel
theorem dX7_gap_39 : decode cX7_gap 39 = .ok (.iload_n 3, 1) := by decide +kernel
theorem dX7_gap_40 : decode cX7_gap 40 = .ok (.iconst 1, 1) := by decide +kernel
theorem dX7_gap_41 : decode cX7_gap 41 = .ok (.iadd, 1) := by decide +kernel
theorem dX7_gap_42 : decode cX7_gap 42 = .ok (.goto 4, 3) := by decide +kernel
theorem dX7_gap_45 : decode cX7_gap 45 = .ok (.iconst 0, 1) := by decide +kernel
theorem dX7_gap_46 : decode cX7_gap 46 = .ok (.istore_n 3, 1) := by decide +kernel
theorem dX7_gap_47 : decode cX7_gap 47 = .ok (.iload_n 3, 1) := by decide +kernel
theorem dX7_gap_48 : decode cX7_gap 48 = .ok (.iload_n 1, 1) := by decide +kernel
theorem dX7_gap_49 : decode cX7_gap 49 = .ok (.if_icmp .ne 10, 3) := by decide +kernel
theorem dX7_gap_52 : decode cX7_gap 52 = .ok (.iload 4, 2) := by decide +kernel
theorem dX7_gap_54 : decode cX7_gap 54 = .ok (.iload_n 1, 1) := by decide +kernel
theorem dX7_gap_55 : decode cX7_gap 55 = .ok (.isub, 1) := by decide +kernel
theorem dX7_gap_56 : decode cX7_gap 56 = .ok (.iconst 1, 1) := by decide +kernel
theorem dX7_gap_57 : decode cX7_gap 57 = .ok (.iadd, 1) := by decide +kernel
theorem dX7_gap_58 : decode cX7_gap 58 = .ok (.ireturn, 1) := by decide +kernel
theorem dX7_gap_59 : decode cX7_gap 59 = .ok (.iinc 4 1, 3) := by decide +kernel
theorem dX7_gap_62 : decode cX7_gap 62 = .ok (.goto (-46), 3) := by decide +kernel
theorem dX7_gap_65 : decode cX7_gap 65 = .ok (.iinc 2 1, 3) := by decide +kernel
theorem dX7_gap_68 : decode cX7_gap 68 = .ok (.goto (-66), 3) := by decide +kernel
theorem dX7_gap_71 : decode cX7_gap 71 = .ok (.iconst (-1), 1) := by decide +kernel
theorem dX7_gap_72 : decode cX7_gap 72 = .ok (.ireturn, 1) := by decide +kernel
theorem dX7_lay_0 : decode cX7_lay 0 = .ok (.aload_n 0, 1) := by decide +kernel
theorem dX7_lay_1 : decode cX7_lay 1 = .ok (.iload_n 1, 1) := by decide +kernel
theorem dX7_lay_2 : decode cX7_lay 2 = .ok (.bipush 7, 2) := by decide +kernel
theorem dX7_lay_4 : decode cX7_lay 4 = .ok (.iload_n 2, 1) := by decide +kernel
theorem dX7_lay_5 : decode cX7_lay 5 = .ok (.invokevirtual 54, 3) := by decide +kernel
theorem dX7_lay_8 : decode cX7_lay 8 = .ok (.iload_n 2, 1) := by decide +kernel
theorem dX7_lay_9 : decode cX7_lay 9 = .ok (.istore_n 3, 1) := by decide +kernel
theorem dX7_lay_10 : decode cX7_lay 10 = .ok (.iload_n 3, 1) := by decide +kernel
theorem dX7_lay_11 : decode cX7_lay 11 = .ok (.iload_n 2, 1) := by decide +kernel
theorem dX7_lay_12 : decode cX7_lay 12 = .ok (.aload_n 0, 1) := by decide +kernel
theorem dX7_lay_13 : decode cX7_lay 13 = .ok (.iload_n 1, 1) := by decide +kernel
theorem dX7_lay_14 : decode cX7_lay 14 = .ok (.iconst 3, 1) := by decide +kernel
theorem dX7_lay_15 : decode cX7_lay 15 = .ok (.invokevirtual 58, 3) := by decide +kernel
theorem dX7_lay_18 : decode cX7_lay 18 = .ok (.iadd, 1) := by decide +kernel
theorem dX7_lay_19 : decode cX7_lay 19 = .ok (.if_icmp .ge 16, 3) := by decide +kernel
theorem dX7_lay_22 : decode cX7_lay 22 = .ok (.aload_n 0, 1) := by decide +kernel
theorem dX7_lay_23 : decode cX7_lay 23 = .ok (.getfield 29, 3) := by decide +kernel
theorem dX7_lay_26 : decode cX7_lay 26 = .ok (.iload_n 3, 1) := by decide +kernel
theorem dX7_lay_27 : decode cX7_lay 27 = .ok (.iload_n 1, 1) := by decide +kernel
theorem dX7_lay_28 : decode cX7_lay 28 = .ok (.iastore, 1) := by decide +kernel
theorem dX7_lay_29 : decode cX7_lay 29 = .ok (.iinc 3 1, 3) := by decide +kernel
theorem dX7_lay_32 : decode cX7_lay 32 = .ok (.goto (-22), 3) := by decide +kernel
theorem dX7_lay_35 : decode cX7_lay 35 = .ok (.return_, 1) := by decide +kernel
theorem dX7_take_0 : decode cX7_take 0 = .ok (.iconst 0, 1) := by decide +kernel
theorem dX7_take_1 : decode cX7_take 1 = .ok (.istore_n 2, 1) := by decide +kernel
theorem dX7_take_2 : decode cX7_take 2 = .ok (.iload_n 2, 1) := by decide +kernel
theorem dX7_take_3 : decode cX7_take 3 = .ok (.bipush 60, 2) := by decide +kernel
theorem dX7_take_5 : decode cX7_take 5 = .ok (.if_icmp .ge 26, 3) := by decide +kernel
theorem dX7_take_8 : decode cX7_take 8 = .ok (.aload_n 0, 1) := by decide +kernel
theorem dX7_take_9 : decode cX7_take 9 = .ok (.getfield 29, 3) := by decide +kernel
theorem dX7_take_12 : decode cX7_take 12 = .ok (.iload_n 2, 1) := by decide +kernel
theorem dX7_take_13 : decode cX7_take 13 = .ok (.iaload, 1) := by decide +kernel
theorem dX7_take_14 : decode cX7_take 14 = .ok (.iload_n 1, 1) := by decide +kernel
theorem dX7_take_15 : decode cX7_take 15 = .ok (.if_icmp .ne 10, 3) := by decide +kernel
theorem dX7_take_18 : decode cX7_take 18 = .ok (.aload_n 0, 1) := by decide +kernel
theorem dX7_take_19 : decode cX7_take 19 = .ok (.getfield 29, 3) := by decide +kernel
theorem dX7_take_22 : decode cX7_take 22 = .ok (.iload_n 2, 1) := by decide +kernel
theorem dX7_take_23 : decode cX7_take 23 = .ok (.iconst (-1), 1) := by decide +kernel
theorem dX7_take_24 : decode cX7_take 24 = .ok (.iastore, 1) := by decide +kernel
theorem dX7_take_25 : decode cX7_take 25 = .ok (.iinc 2 1, 3) := by decide +kernel
theorem dX7_take_28 : decode cX7_take 28 = .ok (.goto (-26), 3) := by decide +kernel
theorem dX7_take_31 : decode cX7_take 31 = .ok (.aload_n 0, 1) := by decide +kernel
theorem dX7_take_32 : decode cX7_take 32 = .ok (.iload_n 1, 1) := by decide +kernel
theorem dX7_take_33 : decode cX7_take 33 = .ok (.bipush 7, 2) := by decide +kernel
theorem dX7_take_35 : decode cX7_take 35 = .ok (.iconst (-1), 1) := by decide +kernel
theorem dX7_take_36 : decode cX7_take 36 = .ok (.invokevirtual 54, 3) := by decide +kernel
theorem dX7_take_39 : decode cX7_take 39 = .ok (.return_, 1) := by decide +kernel
theorem dX7_interestOf_0 : decode cX7_interestOf 0 = .ok (.aload_n 0, 1) := by decide +kernel
theorem dX7_interestOf_1 : decode cX7_interestOf 1 = .ok (.getfield 38, 3) := by decide +kernel
theorem dX7_interestOf_4 : decode cX7_interestOf 4 = .ok (.aload_n 0, 1) := by decide +kernel
theorem dX7_interestOf_5 : decode cX7_interestOf 5 = .ok (.iload_n 1, 1) := by decide +kernel
theorem dX7_interestOf_6 : decode cX7_interestOf 6 = .ok (.bipush 10, 2) := by decide +kernel
theorem dX7_interestOf_8 : decode cX7_interestOf 8 = .ok (.invokevirtual 58, 3) := by decide +kernel
theorem dX7_interestOf_11 : decode cX7_interestOf 11 = .ok (.isub, 1) := by decide +kernel
theorem dX7_interestOf_12 : decode cX7_interestOf 12 = .ok (.bipush 30, 2) := by decide +kernel
theorem dX7_interestOf_14 : decode cX7_interestOf 14 = .ok (.idiv, 1) := by decide +kernel
theorem dX7_interestOf_15 : decode cX7_interestOf 15 = .ok (.iconst 1, 1) := by decide +kernel
theorem dX7_interestOf_16 : decode cX7_interestOf 16 = .ok (.iadd, 1) := by decide +kernel
theorem dX7_interestOf_17 : decode cX7_interestOf 17 = .ok (.iconst 1, 1) := by decide +kernel
theorem dX7_interestOf_18 : decode cX7_interestOf 18 = .ok (.aload_n 0, 1) := by decide +kernel
theorem dX7_interestOf_19 : decode cX7_interestOf 19 = .ok (.iload_n 1, 1) := by decide +kernel
theorem dX7_interestOf_20 : decode cX7_interestOf 20 = .ok (.iconst 4, 1) := by decide +kernel
theorem dX7_interestOf_21 : decode cX7_interestOf 21 = .ok (.invokevirtual 58, 3) := by decide +kernel
theorem dX7_interestOf_24 : decode cX7_interestOf 24 = .ok (.iconst 5, 1) := by decide +kernel
theorem dX7_interestOf_25 : decode cX7_interestOf 25 = .ok (.imul, 1) := by decide +kernel
theorem dX7_interestOf_26 : decode cX7_interestOf 26 = .ok (.bipush 100, 2) := by decide +kernel
theorem dX7_interestOf_28 : decode cX7_interestOf 28 = .ok (.idiv, 1) := by decide +kernel
theorem dX7_interestOf_29 : decode cX7_interestOf 29 = .ok (.invokestatic 62, 3) := by decide +kernel
theorem dX7_interestOf_32 : decode cX7_interestOf 32 = .ok (.imul, 1) := by decide +kernel
theorem dX7_interestOf_33 : decode cX7_interestOf 33 = .ok (.ireturn, 1) := by decide +kernel
theorem dX7_owed_0 : decode cX7_owed 0 = .ok (.aload_n 0, 1) := by decide +kernel
theorem dX7_owed_1 : decode cX7_owed 1 = .ok (.iload_n 1, 1) := by decide +kernel
theorem dX7_owed_2 : decode cX7_owed 2 = .ok (.bipush 6, 2) := by decide +kernel
theorem dX7_owed_4 : decode cX7_owed 4 = .ok (.invokevirtual 58, 3) := by decide +kernel
theorem dX7_owed_7 : decode cX7_owed 7 = .ok (.ifCond .ne 18, 3) := by decide +kernel
theorem dX7_owed_10 : decode cX7_owed 10 = .ok (.aload_n 0, 1) := by decide +kernel
theorem dX7_owed_11 : decode cX7_owed 11 = .ok (.iload_n 1, 1) := by decide +kernel
theorem dX7_owed_12 : decode cX7_owed 12 = .ok (.iconst 4, 1) := by decide +kernel
theorem dX7_owed_13 : decode cX7_owed 13 = .ok (.invokevirtual 58, 3) := by decide +kernel
theorem dX7_owed_16 : decode cX7_owed 16 = .ok (.aload_n 0, 1) := by decide +kernel
theorem dX7_owed_17 : decode cX7_owed 17 = .ok (.iload_n 1, 1) := by decide +kernel
theorem dX7_owed_18 : decode cX7_owed 18 = .ok (.invokevirtual 67, 3) := by decide +kernel
theorem dX7_owed_21 : decode cX7_owed 21 = .ok (.iadd, 1) := by decide +kernel
theorem dX7_owed_22 : decode cX7_owed 22 = .ok (.goto 4, 3) := by decide +kernel
theorem dX7_owed_25 : decode cX7_owed 25 = .ok (.iconst 0, 1) := by decide +kernel
theorem dX7_owed_26 : decode cX7_owed 26 = .ok (.ireturn, 1) := by decide +kernel
theorem dX7_isBought_0 : decode cX7_isBought 0 = .ok (.aload_n 0, 1) := by decide +kernel
theorem dX7_isBought_1 : decode cX7_isBought 1 = .ok (.getfield 3, 3) := by decide +kernel
theorem dX7_isBought_4 : decode cX7_isBought 4 = .ok (.getfield 71, 3) := by decide +kernel
theorem dX7_isBought_7 : decode cX7_isBought 7 = .ok (.aload_n 0, 1) := by decide +kernel
theorem dX7_isBought_8 : decode cX7_isBought 8 = .ok (.getfield 38, 3) := by decide +kernel
theorem dX7_isBought_11 : decode cX7_isBought 11 = .ok (.bipush 7, 2) := by decide +kernel
theorem dX7_isBought_13 : decode cX7_isBought 13 = .ok (.irem, 1) := by decide +kernel
theorem dX7_isBought_14 : decode cX7_isBought 14 = .ok (.iaload, 1) := by decide +kernel
theorem dX7_isBought_15 : decode cX7_isBought 15 = .ok (.istore_n 1, 1) := by decide +kernel
theorem dX7_isBought_16 : decode cX7_isBought 16 = .ok (.iload_n 1, 1) := by decide +kernel
theorem dX7_isBought_17 : decode cX7_isBought 17 = .ok (.iconst (-1), 1) := by decide +kernel
theorem dX7_isBought_18 : decode cX7_isBought 18 = .ok (.if_icmp .ne 5, 3) := by decide +kernel
theorem dX7_isBought_21 : decode cX7_isBought 21 = .ok (.iconst 0, 1) := by decide +kernel
theorem dX7_isBought_22 : decode cX7_isBought 22 = .ok (.ireturn, 1) := by decide +kernel
theorem dX7_isBought_23 : decode cX7_isBought 23 = .ok (.iconst (-1), 1) := by decide +kernel
theorem dX7_isBought_24 : decode cX7_isBought 24 = .ok (.istore_n 2, 1) := by decide +kernel
theorem dX7_isBought_25 : decode cX7_isBought 25 = .ok (.iconst 0, 1) := by decide +kernel
theorem dX7_isBought_26 : decode cX7_isBought 26 = .ok (.istore_n 3, 1) := by decide +kernel
theorem dX7_isBought_27 : decode cX7_isBought 27 = .ok (.iload_n 3, 1) := by decide +kernel
theorem dX7_isBought_28 : decode cX7_isBought 28 = .ok (.aload_n 0, 1) := by decide +kernel
theorem dX7_isBought_29 : decode cX7_isBought 29 = .ok (.getfield 41, 3) := by decide +kernel
theorem dX7_isBought_32 : decode cX7_isBought 32 = .ok (.if_icmp .ge 82, 3) := by decide +kernel
theorem dX7_isBought_35 : decode cX7_isBought 35 = .ok (.aload_n 0, 1) := by decide +kernel
theorem dX7_isBought_36 : decode cX7_isBought 36 = .ok (.iload_n 3, 1) := by decide +kernel
theorem dX7_isBought_37 : decode cX7_isBought 37 = .ok (.bipush 6, 2) := by decide +kernel
theorem dX7_isBought_39 : decode cX7_isBought 39 = .ok (.invokevirtual 58, 3) := by decide +kernel
theorem dX7_isBought_42 : decode cX7_isBought 42 = .ok (.iconst 2, 1) := by decide +kernel
theorem dX7_isBought_43 : decode cX7_isBought 43 = .ok (.if_icmp .ne 65, 3) := by decide +kernel
theorem dX7_isBought_46 : decode cX7_isBought 46 = .ok (.aload_n 0, 1) := by decide +kernel
theorem dX7_isBought_47 : decode cX7_isBought 47 = .ok (.iload_n 3, 1) := by decide +kernel
theorem dX7_isBought_48 : decode cX7_isBought 48 = .ok (.iconst 1, 1) := by decide +kernel
theorem dX7_isBought_49 : decode cX7_isBought 49 = .ok (.invokevirtual 58, 3) := by decide +kernel
theorem dX7_isBought_52 : decode cX7_isBought 52 = .ok (.iload_n 1, 1) := by decide +kernel
theorem dX7_isBought_53 : decode cX7_isBought 53 = .ok (.if_icmp .ne 55, 3) := by decide +kernel
theorem dX7_isBought_56 : decode cX7_isBought 56 = .ok (.aload_n 0, 1) := by decide +kernel
theorem dX7_isBought_57 : decode cX7_isBought 57 = .ok (.iload_n 3, 1) := by decide +kernel
theorem dX7_isBought_58 : decode cX7_isBought 58 = .ok (.bipush 8, 2) := by decide +kernel
theorem dX7_isBought_60 : decode cX7_isBought 60 = .ok (.invokevirtual 58, 3) := by decide +kernel
theorem dX7_isBought_63 : decode cX7_isBought 63 = .ok (.aload_n 0, 1) := by decide +kernel
theorem dX7_isBought_64 : decode cX7_isBought 64 = .ok (.getfield 3, 3) := by decide +kernel
theorem dX7_isBought_67 : decode cX7_isBought 67 = .ok (.getfield 74, 3) := by decide +kernel
theorem dX7_isBought_70 : decode cX7_isBought 70 = .ok (.aload_n 0, 1) := by decide +kernel
theorem dX7_isBought_71 : decode cX7_isBought 71 = .ok (.getfield 38, 3) := by decide +kernel
theorem dX7_isBought_74 : decode cX7_isBought 74 = .ok (.bipush 7, 2) := by decide +kernel
theorem dX7_isBought_76 : decode cX7_isBought 76 = .ok (.irem, 1) := by decide +kernel
theorem dX7_isBought_77 : decode cX7_isBought 77 = .ok (.iaload, 1) := by decide +kernel
theorem dX7_isBought_78 : decode cX7_isBought 78 = .ok (.if_icmp .le 6, 3) := by decide +kernel
theorem dX7_isBought_81 : decode cX7_isBought 81 = .ok (.goto 27, 3) := by decide +kernel
theorem dX7_isBought_84 : decode cX7_isBought 84 = .ok (.iload_n 2, 1) := by decide +kernel
theorem dX7_isBought_85 : decode cX7_isBought 85 = .ok (.iconst (-1), 1) := by decide +kernel
theorem dX7_isBought_86 : decode cX7_isBought 86 = .ok (.if_icmp .eq 20, 3) := by decide +kernel
theorem dX7_isBought_89 : decode cX7_isBought 89 = .ok (.aload_n 0, 1) := by decide +kernel
theorem dX7_isBought_90 : decode cX7_isBought 90 = .ok (.iload_n 3, 1) := by decide +kernel
theorem dX7_isBought_91 : decode cX7_isBought 91 = .ok (.bipush 8, 2) := by decide +kernel
theorem dX7_isBought_93 : decode cX7_isBought 93 = .ok (.invokevirtual 58, 3) := by decide +kernel
theorem dX7_isBought_96 : decode cX7_isBought 96 = .ok (.aload_n 0, 1) := by decide +kernel
theorem dX7_isBought_97 : decode cX7_isBought 97 = .ok (.iload_n 2, 1) := by decide +kernel
theorem dX7_isBought_98 : decode cX7_isBought 98 = .ok (.bipush 8, 2) := by decide +kernel
theorem dX7_isBought_100 : decode cX7_isBought 100 = .ok (.invokevirtual 58, 3) := by decide +kernel
theorem dX7_isBought_103 : decode cX7_isBought 103 = .ok (.if_icmp .le 5, 3) := by decide +kernel
theorem dX7_isBought_106 : decode cX7_isBought 106 = .ok (.iload_n 3, 1) := by decide +kernel
theorem dX7_isBought_107 : decode cX7_isBought 107 = .ok (.istore_n 2, 1) := by decide +kernel
theorem dX7_isBought_108 : decode cX7_isBought 108 = .ok (.iinc 3 1, 3) := by decide +kernel
theorem dX7_isBought_111 : decode cX7_isBought 111 = .ok (.goto (-84), 3) := by decide +kernel
theorem dX7_isBought_114 : decode cX7_isBought 114 = .ok (.iload_n 2, 1) := by decide +kernel
theorem dX7_isBought_115 : decode cX7_isBought 115 = .ok (.iconst (-1), 1) := by decide +kernel
theorem dX7_isBought_116 : decode cX7_isBought 116 = .ok (.if_icmp .ne 5, 3) := by decide +kernel
theorem dX7_isBought_119 : decode cX7_isBought 119 = .ok (.iconst 0, 1) := by decide +kernel
theorem dX7_isBought_120 : decode cX7_isBought 120 = .ok (.ireturn, 1) := by decide +kernel
theorem dX7_isBought_121 : decode cX7_isBought 121 = .ok (.aload_n 0, 1) := by decide +kernel
theorem dX7_isBought_122 : decode cX7_isBought 122 = .ok (.dup, 1) := by decide +kernel
theorem dX7_isBought_123 : decode cX7_isBought 123 = .ok (.getfield 15, 3) := by decide +kernel
theorem dX7_isBought_126 : decode cX7_isBought 126 = .ok (.aload_n 0, 1) := by decide +kernel
theorem dX7_isBought_127 : decode cX7_isBought 127 = .ok (.iload_n 2, 1) := by decide +kernel
theorem dX7_isBought_128 : decode cX7_isBought 128 = .ok (.bipush 8, 2) := by decide +kernel
theorem dX7_isBought_130 : decode cX7_isBought 130 = .ok (.invokevirtual 58, 3) := by decide +kernel
theorem dX7_isBought_133 : decode cX7_isBought 133 = .ok (.iadd, 1) := by decide +kernel
theorem dX7_isBought_134 : decode cX7_isBought 134 = .ok (.putfield 15, 3) := by decide +kernel
theorem dX7_isBought_137 : decode cX7_isBought 137 = .ok (.aload_n 0, 1) := by decide +kernel
theorem dX7_isBought_138 : decode cX7_isBought 138 = .ok (.iload_n 2, 1) := by decide +kernel
theorem dX7_isBought_139 : decode cX7_isBought 139 = .ok (.bipush 6, 2) := by decide +kernel
theorem dX7_isBought_141 : decode cX7_isBought 141 = .ok (.iconst 3, 1) := by decide +kernel
theorem dX7_isBought_142 : decode cX7_isBought 142 = .ok (.invokevirtual 54, 3) := by decide +kernel
theorem dX7_isBought_145 : decode cX7_isBought 145 = .ok (.aload_n 0, 1) := by decide +kernel
theorem dX7_isBought_146 : decode cX7_isBought 146 = .ok (.iload_n 2, 1) := by decide +kernel
theorem dX7_isBought_147 : decode cX7_isBought 147 = .ok (.invokevirtual 77, 3) := by decide +kernel
theorem dX7_isBought_150 : decode cX7_isBought 150 = .ok (.iconst 1, 1) := by decide +kernel
theorem dX7_isBought_151 : decode cX7_isBought 151 = .ok (.ireturn, 1) := by decide +kernel
theorem dX7_pass_0 : decode cX7_pass 0 = .ok (.iconst 0, 1) := by decide +kernel
theorem dX7_pass_1 : decode cX7_pass 1 = .ok (.istore_n 1, 1) := by decide +kernel
theorem dX7_pass_2 : decode cX7_pass 2 = .ok (.iload_n 1, 1) := by decide +kernel
theorem dX7_pass_3 : decode cX7_pass 3 = .ok (.aload_n 0, 1) := by decide +kernel
theorem dX7_pass_4 : decode cX7_pass 4 = .ok (.getfield 41, 3) := by decide +kernel
theorem dX7_pass_7 : decode cX7_pass 7 = .ok (.if_icmp .ge 125, 3) := by decide +kernel
theorem dX7_pass_10 : decode cX7_pass 10 = .ok (.aload_n 0, 1) := by decide +kernel
theorem dX7_pass_11 : decode cX7_pass 11 = .ok (.iload_n 1, 1) := by decide +kernel
theorem dX7_pass_12 : decode cX7_pass 12 = .ok (.iconst 2, 1) := by decide +kernel
theorem dX7_pass_13 : decode cX7_pass 13 = .ok (.invokevirtual 58, 3) := by decide +kernel
theorem dX7_pass_16 : decode cX7_pass 16 = .ok (.istore_n 2, 1) := by decide +kernel
theorem dX7_pass_17 : decode cX7_pass 17 = .ok (.aload_n 0, 1) := by decide +kernel
theorem dX7_pass_18 : decode cX7_pass 18 = .ok (.iload_n 1, 1) := by decide +kernel
theorem dX7_pass_19 : decode cX7_pass 19 = .ok (.bipush 6, 2) := by decide +kernel
theorem dX7_pass_21 : decode cX7_pass 21 = .ok (.invokevirtual 58, 3) := by decide +kernel
theorem dX7_pass_24 : decode cX7_pass 24 = .ok (.iconst 2, 1) := by decide +kernel
theorem dX7_pass_25 : decode cX7_pass 25 = .ok (.if_icmp .ne 31, 3) := by decide +kernel
theorem dX7_pass_28 : decode cX7_pass 28 = .ok (.aload_n 0, 1) := by decide +kernel
theorem dX7_pass_29 : decode cX7_pass 29 = .ok (.iload_n 1, 1) := by decide +kernel
theorem dX7_pass_30 : decode cX7_pass 30 = .ok (.bipush 8, 2) := by decide +kernel
theorem dX7_pass_32 : decode cX7_pass 32 = .ok (.iload_n 2, 1) := by decide +kernel
theorem dX7_pass_33 : decode cX7_pass 33 = .ok (.iconst 3, 1) := by decide +kernel
theorem dX7_pass_34 : decode cX7_pass 34 = .ok (.imul, 1) := by decide +kernel
theorem dX7_pass_35 : decode cX7_pass 35 = .ok (.bipush 10, 2) := by decide +kernel
theorem dX7_pass_37 : decode cX7_pass 37 = .ok (.idiv, 1) := by decide +kernel
theorem dX7_pass_38 : decode cX7_pass 38 = .ok (.aload_n 0, 1) := by decide +kernel
theorem dX7_pass_39 : decode cX7_pass 39 = .ok (.iload_n 1, 1) := by decide +kernel
theorem dX7_pass_40 : decode cX7_pass 40 = .ok (.bipush 8, 2) := by decide +kernel
theorem dX7_pass_42 : decode cX7_pass 42 = .ok (.invokevirtual 58, 3) := by decide +kernel
theorem dX7_pass_45 : decode cX7_pass 45 = .ok (.iload_n 2, 1) := by decide +kernel
theorem dX7_pass_46 : decode cX7_pass 46 = .ok (.bipush 20, 2) := by decide +kernel
theorem dX7_pass_48 : decode cX7_pass 48 = .ok (.idiv, 1) := by decide +kernel
theorem dX7_pass_49 : decode cX7_pass 49 = .ok (.isub, 1) := by decide +kernel
theorem dX7_pass_50 : decode cX7_pass 50 = .ok (.invokestatic 62, 3) := by decide +kernel
theorem dX7_pass_53 : decode cX7_pass 53 = .ok (.invokevirtual 54, 3) := by decide +kernel
theorem dX7_pass_56 : decode cX7_pass 56 = .ok (.aload_n 0, 1) := by decide +kernel
theorem dX7_pass_57 : decode cX7_pass 57 = .ok (.iload_n 1, 1) := by decide +kernel
theorem dX7_pass_58 : decode cX7_pass 58 = .ok (.bipush 6, 2) := by decide +kernel
theorem dX7_pass_60 : decode cX7_pass 60 = .ok (.invokevirtual 58, 3) := by decide +kernel
theorem dX7_pass_63 : decode cX7_pass 63 = .ok (.ifCond .ne 63, 3) := by decide +kernel
theorem dX7_pass_66 : decode cX7_pass 66 = .ok (.aload_n 0, 1) := by decide +kernel
theorem dX7_pass_67 : decode cX7_pass 67 = .ok (.iload_n 1, 1) := by decide +kernel
theorem dX7_pass_68 : decode cX7_pass 68 = .ok (.iconst 5, 1) := by decide +kernel
theorem dX7_pass_69 : decode cX7_pass 69 = .ok (.invokevirtual 58, 3) := by decide +kernel
theorem dX7_pass_72 : decode cX7_pass 72 = .ok (.aload_n 0, 1) := by decide +kernel
theorem dX7_pass_73 : decode cX7_pass 73 = .ok (.getfield 38, 3) := by decide +kernel
theorem dX7_pass_76 : decode cX7_pass 76 = .ok (.if_icmp .lt 6, 3) := by decide +kernel
theorem dX7_pass_79 : decode cX7_pass 79 = .ok (.goto 47, 3) := by decide +kernel
theorem dX7_pass_82 : decode cX7_pass 82 = .ok (.aload_n 0, 1) := by decide +kernel
theorem dX7_pass_83 : decode cX7_pass 83 = .ok (.iload_n 1, 1) := by decide +kernel
theorem dX7_pass_84 : decode cX7_pass 84 = .ok (.bipush 6, 2) := by decide +kernel
theorem dX7_pass_86 : decode cX7_pass 86 = .ok (.iconst 2, 1) := by decide +kernel
theorem dX7_pass_87 : decode cX7_pass 87 = .ok (.invokevirtual 54, 3) := by decide +kernel
theorem dX7_pass_90 : decode cX7_pass 90 = .ok (.aload_n 0, 1) := by decide +kernel
theorem dX7_pass_91 : decode cX7_pass 91 = .ok (.iload_n 1, 1) := by decide +kernel
theorem dX7_pass_92 : decode cX7_pass 92 = .ok (.bipush 8, 2) := by decide +kernel
theorem dX7_pass_94 : decode cX7_pass 94 = .ok (.iload_n 2, 1) := by decide +kernel
theorem dX7_pass_95 : decode cX7_pass 95 = .ok (.invokevirtual 54, 3) := by decide +kernel
theorem dX7_pass_98 : decode cX7_pass 98 = .ok (.aload_n 0, 1) := by decide +kernel
theorem dX7_pass_99 : decode cX7_pass 99 = .ok (.getfield 23, 3) := by decide +kernel
theorem dX7_pass_102 : decode cX7_pass 102 = .ok (.aload_n 0, 1) := by decide +kernel
theorem dX7_pass_103 : decode cX7_pass 103 = .ok (.iload_n 1, 1) := by decide +kernel
theorem dX7_pass_104 : decode cX7_pass 104 = .ok (.iconst 0, 1) := by decide +kernel
theorem dX7_pass_105 : decode cX7_pass 105 = .ok (.invokevirtual 58, 3) := by decide +kernel
theorem dX7_pass_108 : decode cX7_pass 108 = .ok (.iconst 0, 1) := by decide +kernel
theorem dX7_pass_109 : decode cX7_pass 109 = .ok (.aload_n 0, 1) := by decide +kernel
theorem dX7_pass_110 : decode cX7_pass 110 = .ok (.getfield 23, 3) := by decide +kernel
theorem dX7_pass_113 : decode cX7_pass 113 = .ok (.aload_n 0, 1) := by decide +kernel
theorem dX7_pass_114 : decode cX7_pass 114 = .ok (.iload_n 1, 1) := by decide +kernel
theorem dX7_pass_115 : decode cX7_pass 115 = .ok (.iconst 0, 1) := by decide +kernel
theorem dX7_pass_116 : decode cX7_pass 116 = .ok (.invokevirtual 58, 3) := by decide +kernel
theorem dX7_pass_119 : decode cX7_pass 119 = .ok (.iaload, 1) := by decide +kernel
theorem dX7_pass_120 : decode cX7_pass 120 = .ok (.iconst 2, 1) := by decide +kernel
theorem dX7_pass_121 : decode cX7_pass 121 = .ok (.isub, 1) := by decide +kernel
theorem dX7_pass_122 : decode cX7_pass 122 = .ok (.invokestatic 62, 3) := by decide +kernel
theorem dX7_pass_125 : decode cX7_pass 125 = .ok (.iastore, 1) := by decide +kernel
theorem dX7_pass_126 : decode cX7_pass 126 = .ok (.iinc 1 1, 3) := by decide +kernel
theorem dX7_pass_129 : decode cX7_pass 129 = .ok (.goto (-127), 3) := by decide +kernel
theorem dX7_pass_132 : decode cX7_pass 132 = .ok (.aload_n 0, 1) := by decide +kernel
theorem dX7_pass_133 : decode cX7_pass 133 = .ok (.invokevirtual 81, 3) := by decide +kernel
theorem dX7_pass_136 : decode cX7_pass 136 = .ok (.ifCond .eq 7, 3) := by decide +kernel
theorem dX7_pass_139 : decode cX7_pass 139 = .ok (.iconst 1, 1) := by decide +kernel
theorem dX7_pass_140 : decode cX7_pass 140 = .ok (.goto 4, 3) := by decide +kernel
theorem dX7_pass_143 : decode cX7_pass 143 = .ok (.iconst 0, 1) := by decide +kernel
theorem dX7_pass_144 : decode cX7_pass 144 = .ok (.istore_n 1, 1) := by decide +kernel
theorem dX7_pass_145 : decode cX7_pass 145 = .ok (.aload_n 0, 1) := by decide +kernel
theorem dX7_pass_146 : decode cX7_pass 146 = .ok (.dup, 1) := by decide +kernel
theorem dX7_pass_147 : decode cX7_pass 147 = .ok (.getfield 38, 3) := by decide +kernel
theorem dX7_pass_150 : decode cX7_pass 150 = .ok (.iconst 1, 1) := by decide +kernel
theorem dX7_pass_151 : decode cX7_pass 151 = .ok (.iadd, 1) := by decide +kernel
theorem dX7_pass_152 : decode cX7_pass 152 = .ok (.putfield 38, 3) := by decide +kernel
theorem dX7_pass_155 : decode cX7_pass 155 = .ok (.iload_n 1, 1) := by decide +kernel
theorem dX7_pass_156 : decode cX7_pass 156 = .ok (.ireturn, 1) := by decide +kernel
theorem dX7_how_0 : decode cX7_how 0 = .ok (.iconst 0, 1) := by decide +kernel
theorem dX7_how_1 : decode cX7_how 1 = .ok (.istore_n 2, 1) := by decide +kernel
theorem dX7_how_2 : decode cX7_how 2 = .ok (.iconst 0, 1) := by decide +kernel
theorem dX7_how_3 : decode cX7_how 3 = .ok (.istore_n 3, 1) := by decide +kernel
theorem dX7_how_4 : decode cX7_how 4 = .ok (.iload_n 3, 1) := by decide +kernel
theorem dX7_how_5 : decode cX7_how 5 = .ok (.aload_n 0, 1) := by decide +kernel
theorem dX7_how_6 : decode cX7_how 6 = .ok (.getfield 41, 3) := by decide +kernel
theorem dX7_how_9 : decode cX7_how 9 = .ok (.if_icmp .ge 28, 3) := by decide +kernel
theorem dX7_how_12 : decode cX7_how 12 = .ok (.iload_n 2, 1) := by decide +kernel
theorem dX7_how_13 : decode cX7_how 13 = .ok (.aload_n 0, 1) := by decide +kernel
theorem dX7_how_14 : decode cX7_how 14 = .ok (.iload_n 3, 1) := by decide +kernel
theorem dX7_how_15 : decode cX7_how 15 = .ok (.bipush 6, 2) := by decide +kernel
theorem dX7_how_17 : decode cX7_how 17 = .ok (.invokevirtual 58, 3) := by decide +kernel
theorem dX7_how_20 : decode cX7_how 20 = .ok (.iload_n 1, 1) := by decide +kernel
theorem dX7_how_21 : decode cX7_how 21 = .ok (.if_icmp .ne 7, 3) := by decide +kernel
theorem dX7_how_24 : decode cX7_how 24 = .ok (.iconst 1, 1) := by decide +kernel
theorem dX7_how_25 : decode cX7_how 25 = .ok (.goto 4, 3) := by decide +kernel
theorem dX7_how_28 : decode cX7_how 28 = .ok (.iconst 0, 1) := by decide +kernel
theorem dX7_how_29 : decode cX7_how 29 = .ok (.iadd, 1) := by decide +kernel
theorem dX7_how_30 : decode cX7_how 30 = .ok (.istore_n 2, 1) := by decide +kernel
theorem dX7_how_31 : decode cX7_how 31 = .ok (.iinc 3 1, 3) := by decide +kernel
theorem dX7_how_34 : decode cX7_how 34 = .ok (.goto (-30), 3) := by decide +kernel
theorem dX7_how_37 : decode cX7_how 37 = .ok (.iload_n 2, 1) := by decide +kernel
theorem dX7_how_38 : decode cX7_how 38 = .ok (.ireturn, 1) := by decide +kernel
