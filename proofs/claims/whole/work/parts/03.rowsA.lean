theorem dX0_init_0 : decode cX0_init 0 = .ok (.aload_n 0, 1) := by decide +kernel
theorem dX0_init_1 : decode cX0_init 1 = .ok (.invokespecial 3, 3) := by decide +kernel
theorem dX0_init_4 : decode cX0_init 4 = .ok (.aload_n 0, 1) := by decide +kernel
theorem dX0_init_5 : decode cX0_init 5 = .ok (.iconst (-1), 1) := by decide +kernel
theorem dX0_init_6 : decode cX0_init 6 = .ok (.putfield 9, 3) := by decide +kernel
theorem dX0_init_9 : decode cX0_init 9 = .ok (.return_, 1) := by decide +kernel
theorem dX0_want_0 : decode cX0_want 0 = .ok (.aload_n 0, 1) := by decide +kernel
theorem dX0_want_1 : decode cX0_want 1 = .ok (.iload_n 1, 1) := by decide +kernel
theorem dX0_want_2 : decode cX0_want 2 = .ok (.putfield 9, 3) := by decide +kernel
theorem dX0_want_5 : decode cX0_want 5 = .ok (.aload_n 0, 1) := by decide +kernel
theorem dX0_want_6 : decode cX0_want 6 = .ok (.iload_n 1, 1) := by decide +kernel
theorem dX0_want_7 : decode cX0_want 7 = .ok (.iconst (-1), 1) := by decide +kernel
theorem dX0_want_8 : decode cX0_want 8 = .ok (.if_icmp .ne 7, 3) := by decide +kernel
theorem dX0_want_11 : decode cX0_want 11 = .ok (.iconst 0, 1) := by decide +kernel
theorem dX0_want_12 : decode cX0_want 12 = .ok (.goto 4, 3) := by decide +kernel
theorem dX0_want_15 : decode cX0_want 15 = .ok (.iload_n 2, 1) := by decide +kernel
theorem dX0_want_16 : decode cX0_want 16 = .ok (.putfield 15, 3) := by decide +kernel
theorem dX0_want_19 : decode cX0_want 19 = .ok (.return_, 1) := by decide +kernel
theorem dX0_takes_0 : decode cX0_takes 0 = .ok (.aload_n 1, 1) := by decide +kernel
theorem dX0_takes_1 : decode cX0_takes 1 = .ok (.getfield 18, 3) := by decide +kernel
theorem dX0_takes_4 : decode cX0_takes 4 = .ok (.iconst 2, 1) := by decide +kernel
theorem dX0_takes_5 : decode cX0_takes 5 = .ok (.if_icmp .ne 29, 3) := by decide +kernel
theorem dX0_takes_8 : decode cX0_takes 8 = .ok (.aload_n 1, 1) := by decide +kernel
theorem dX0_takes_9 : decode cX0_takes 9 = .ok (.getfield 23, 3) := by decide +kernel
theorem dX0_takes_12 : decode cX0_takes 12 = .ok (.aload_n 0, 1) := by decide +kernel
theorem dX0_takes_13 : decode cX0_takes 13 = .ok (.getfield 9, 3) := by decide +kernel
theorem dX0_takes_16 : decode cX0_takes 16 = .ok (.if_icmp .ne 18, 3) := by decide +kernel
theorem dX0_takes_19 : decode cX0_takes 19 = .ok (.aload_n 1, 1) := by decide +kernel
theorem dX0_takes_20 : decode cX0_takes 20 = .ok (.getfield 24, 3) := by decide +kernel
theorem dX0_takes_23 : decode cX0_takes 23 = .ok (.aload_n 0, 1) := by decide +kernel
theorem dX0_takes_24 : decode cX0_takes 24 = .ok (.getfield 15, 3) := by decide +kernel
theorem dX0_takes_27 : decode cX0_takes 27 = .ok (.if_icmp .gt 7, 3) := by decide +kernel
theorem dX0_takes_30 : decode cX0_takes 30 = .ok (.iconst 1, 1) := by decide +kernel
theorem dX0_takes_31 : decode cX0_takes 31 = .ok (.goto 4, 3) := by decide +kernel
theorem dX0_takes_34 : decode cX0_takes 34 = .ok (.iconst 0, 1) := by decide +kernel
theorem dX0_takes_35 : decode cX0_takes 35 = .ok (.ireturn, 1) := by decide +kernel
theorem dX1_init_0 : decode cX1_init 0 = .ok (.aload_n 0, 1) := by decide +kernel
theorem dX1_init_1 : decode cX1_init 1 = .ok (.invokespecial 1, 3) := by decide +kernel
theorem dX1_init_4 : decode cX1_init 4 = .ok (.return_, 1) := by decide +kernel
theorem dX1_begin_0 : decode cX1_begin 0 = .ok (.aload_n 0, 1) := by decide +kernel
theorem dX1_begin_1 : decode cX1_begin 1 = .ok (.iload_n 1, 1) := by decide +kernel
theorem dX1_begin_2 : decode cX1_begin 2 = .ok (.putfield 7, 3) := by decide +kernel
theorem dX1_begin_5 : decode cX1_begin 5 = .ok (.aload_n 0, 1) := by decide +kernel
theorem dX1_begin_6 : decode cX1_begin 6 = .ok (.iconst 5, 1) := by decide +kernel
theorem dX1_begin_7 : decode cX1_begin 7 = .ok (.putfield 13, 3) := by decide +kernel
theorem dX1_begin_10 : decode cX1_begin 10 = .ok (.return_, 1) := by decide +kernel
theorem dX1_loanFor_0 : decode cX1_loanFor 0 = .ok (.iconst 1, 1) := by decide +kernel
theorem dX1_loanFor_1 : decode cX1_loanFor 1 = .ok (.iload_n 1, 1) := by decide +kernel
theorem dX1_loanFor_2 : decode cX1_loanFor 2 = .ok (.bipush 40, 2) := by decide +kernel
theorem dX1_loanFor_4 : decode cX1_loanFor 4 = .ok (.iconst 4, 1) := by decide +kernel
theorem dX1_loanFor_5 : decode cX1_loanFor 5 = .ok (.aload_n 0, 1) := by decide +kernel
theorem dX1_loanFor_6 : decode cX1_loanFor 6 = .ok (.getfield 13, 3) := by decide +kernel
theorem dX1_loanFor_9 : decode cX1_loanFor 9 = .ok (.imul, 1) := by decide +kernel
theorem dX1_loanFor_10 : decode cX1_loanFor 10 = .ok (.iadd, 1) := by decide +kernel
theorem dX1_loanFor_11 : decode cX1_loanFor 11 = .ok (.imul, 1) := by decide +kernel
theorem dX1_loanFor_12 : decode cX1_loanFor 12 = .ok (.bipush 100, 2) := by decide +kernel
theorem dX1_loanFor_14 : decode cX1_loanFor 14 = .ok (.idiv, 1) := by decide +kernel
theorem dX1_loanFor_15 : decode cX1_loanFor 15 = .ok (.invokestatic 16, 3) := by decide +kernel
theorem dX1_loanFor_18 : decode cX1_loanFor 18 = .ok (.ireturn, 1) := by decide +kernel
theorem dX1_changeTrust_0 : decode cX1_changeTrust 0 = .ok (.aload_n 0, 1) := by decide +kernel
theorem dX1_changeTrust_1 : decode cX1_changeTrust 1 = .ok (.iconst 0, 1) := by decide +kernel
theorem dX1_changeTrust_2 : decode cX1_changeTrust 2 = .ok (.bipush 10, 2) := by decide +kernel
theorem dX1_changeTrust_4 : decode cX1_changeTrust 4 = .ok (.aload_n 0, 1) := by decide +kernel
theorem dX1_changeTrust_5 : decode cX1_changeTrust 5 = .ok (.getfield 13, 3) := by decide +kernel
theorem dX1_changeTrust_8 : decode cX1_changeTrust 8 = .ok (.iload_n 1, 1) := by decide +kernel
theorem dX1_changeTrust_9 : decode cX1_changeTrust 9 = .ok (.iadd, 1) := by decide +kernel
theorem dX1_changeTrust_10 : decode cX1_changeTrust 10 = .ok (.invokestatic 22, 3) := by decide +kernel
theorem dX1_changeTrust_13 : decode cX1_changeTrust 13 = .ok (.invokestatic 16, 3) := by decide +kernel
theorem dX1_changeTrust_16 : decode cX1_changeTrust 16 = .ok (.putfield 13, 3) := by decide +kernel
theorem dX1_changeTrust_19 : decode cX1_changeTrust 19 = .ok (.return_, 1) := by decide +kernel
theorem dX1_copyFrom_0 : decode cX1_copyFrom 0 = .ok (.aload_n 0, 1) := by decide +kernel
theorem dX1_copyFrom_1 : decode cX1_copyFrom 1 = .ok (.aload_n 1, 1) := by decide +kernel
theorem dX1_copyFrom_2 : decode cX1_copyFrom 2 = .ok (.getfield 7, 3) := by decide +kernel
theorem dX1_copyFrom_5 : decode cX1_copyFrom 5 = .ok (.putfield 7, 3) := by decide +kernel
theorem dX1_copyFrom_8 : decode cX1_copyFrom 8 = .ok (.aload_n 0, 1) := by decide +kernel
theorem dX1_copyFrom_9 : decode cX1_copyFrom 9 = .ok (.aload_n 1, 1) := by decide +kernel
theorem dX1_copyFrom_10 : decode cX1_copyFrom 10 = .ok (.getfield 13, 3) := by decide +kernel
theorem dX1_copyFrom_13 : decode cX1_copyFrom 13 = .ok (.putfield 13, 3) := by decide +kernel
theorem dX1_copyFrom_16 : decode cX1_copyFrom 16 = .ok (.return_, 1) := by decide +kernel
theorem dX2_init_0 : decode cX2_init 0 = .ok (.aload_n 0, 1) := by decide +kernel
theorem dX2_init_1 : decode cX2_init 1 = .ok (.invokespecial 3, 3) := by decide +kernel
theorem dX2_init_4 : decode cX2_init 4 = .ok (.aload_n 0, 1) := by decide +kernel
theorem dX2_init_5 : decode cX2_init 5 = .ok (.iconst 3, 1) := by decide +kernel
theorem dX2_init_6 : decode cX2_init 6 = .ok (.anewarray 9, 3) := by decide +kernel
theorem dX2_init_9 : decode cX2_init 9 = .ok (.dup, 1) := by decide +kernel
theorem dX2_init_10 : decode cX2_init 10 = .ok (.iconst 0, 1) := by decide +kernel
theorem dX2_init_11 : decode cX2_init 11 = .ok (.new 9, 3) := by decide +kernel
theorem dX2_init_14 : decode cX2_init 14 = .ok (.dup, 1) := by decide +kernel
theorem dX2_init_15 : decode cX2_init 15 = .ok (.bipush 10, 2) := by decide +kernel
theorem dX2_init_17 : decode cX2_init 17 = .ok (.invokespecial 11, 3) := by decide +kernel
theorem dX2_init_20 : decode cX2_init 20 = .ok (.aastore, 1) := by decide +kernel
theorem dX2_init_21 : decode cX2_init 21 = .ok (.dup, 1) := by decide +kernel
theorem dX2_init_22 : decode cX2_init 22 = .ok (.iconst 1, 1) := by decide +kernel
theorem dX2_init_23 : decode cX2_init 23 = .ok (.new 9, 3) := by decide +kernel
theorem dX2_init_26 : decode cX2_init 26 = .ok (.dup, 1) := by decide +kernel
theorem dX2_init_27 : decode cX2_init 27 = .ok (.bipush 20, 2) := by decide +kernel
theorem dX2_init_29 : decode cX2_init 29 = .ok (.invokespecial 11, 3) := by decide +kernel
theorem dX2_init_32 : decode cX2_init 32 = .ok (.aastore, 1) := by decide +kernel
theorem dX2_init_33 : decode cX2_init 33 = .ok (.dup, 1) := by decide +kernel
theorem dX2_init_34 : decode cX2_init 34 = .ok (.iconst 2, 1) := by decide +kernel
theorem dX2_init_35 : decode cX2_init 35 = .ok (.new 9, 3) := by decide +kernel
theorem dX2_init_38 : decode cX2_init 38 = .ok (.dup, 1) := by decide +kernel
theorem dX2_init_39 : decode cX2_init 39 = .ok (.bipush 30, 2) := by decide +kernel
theorem dX2_init_41 : decode cX2_init 41 = .ok (.invokespecial 11, 3) := by decide +kernel
theorem dX2_init_44 : decode cX2_init 44 = .ok (.aastore, 1) := by decide +kernel
theorem dX2_init_45 : decode cX2_init 45 = .ok (.putfield 14, 3) := by decide +kernel
theorem dX2_init_48 : decode cX2_init 48 = .ok (.return_, 1) := by decide +kernel
theorem dX2_hasPlace_0 : decode cX2_hasPlace 0 = .ok (.iload_n 1, 1) := by decide +kernel
theorem dX2_hasPlace_1 : decode cX2_hasPlace 1 = .ok (.iconst 0, 1) := by decide +kernel
theorem dX2_hasPlace_2 : decode cX2_hasPlace 2 = .ok (.aload_n 0, 1) := by decide +kernel
theorem dX2_hasPlace_3 : decode cX2_hasPlace 3 = .ok (.getfield 14, 3) := by decide +kernel
theorem dX2_hasPlace_6 : decode cX2_hasPlace 6 = .ok (.arraylength, 1) := by decide +kernel
theorem dX2_hasPlace_7 : decode cX2_hasPlace 7 = .ok (.iconst 1, 1) := by decide +kernel
theorem dX2_hasPlace_8 : decode cX2_hasPlace 8 = .ok (.isub, 1) := by decide +kernel
theorem dX2_hasPlace_9 : decode cX2_hasPlace 9 = .ok (.invokestatic 20, 3) := by decide +kernel
theorem dX2_hasPlace_12 : decode cX2_hasPlace 12 = .ok (.ifCond .eq 27, 3) := by decide +kernel
theorem dX2_hasPlace_15 : decode cX2_hasPlace 15 = .ok (.iload_n 2, 1) := by decide +kernel
theorem dX2_hasPlace_16 : decode cX2_hasPlace 16 = .ok (.iconst 0, 1) := by decide +kernel
theorem dX2_hasPlace_17 : decode cX2_hasPlace 17 = .ok (.aload_n 0, 1) := by decide +kernel
theorem dX2_hasPlace_18 : decode cX2_hasPlace 18 = .ok (.getfield 14, 3) := by decide +kernel
theorem dX2_hasPlace_21 : decode cX2_hasPlace 21 = .ok (.iload_n 1, 1) := by decide +kernel
theorem dX2_hasPlace_22 : decode cX2_hasPlace 22 = .ok (.aaload, 1) := by decide +kernel
theorem dX2_hasPlace_23 : decode cX2_hasPlace 23 = .ok (.getfield 24, 3) := by decide +kernel
theorem dX2_hasPlace_26 : decode cX2_hasPlace 26 = .ok (.arraylength, 1) := by decide +kernel
theorem dX2_hasPlace_27 : decode cX2_hasPlace 27 = .ok (.iconst 1, 1) := by decide +kernel
theorem dX2_hasPlace_28 : decode cX2_hasPlace 28 = .ok (.isub, 1) := by decide +kernel
theorem dX2_hasPlace_29 : decode cX2_hasPlace 29 = .ok (.invokestatic 20, 3) := by decide +kernel
theorem dX2_hasPlace_32 : decode cX2_hasPlace 32 = .ok (.ifCond .eq 7, 3) := by decide +kernel
theorem dX2_hasPlace_35 : decode cX2_hasPlace 35 = .ok (.iconst 1, 1) := by decide +kernel
theorem dX2_hasPlace_36 : decode cX2_hasPlace 36 = .ok (.goto 4, 3) := by decide +kernel
theorem dX2_hasPlace_39 : decode cX2_hasPlace 39 = .ok (.iconst 0, 1) := by decide +kernel
theorem dX2_hasPlace_40 : decode cX2_hasPlace 40 = .ok (.ireturn, 1) := by decide +kernel
theorem dX2_spotFor_0 : decode cX2_spotFor 0 = .ok (.iconst 0, 1) := by decide +kernel
theorem dX2_spotFor_1 : decode cX2_spotFor 1 = .ok (.istore_n 2, 1) := by decide +kernel
theorem dX2_spotFor_2 : decode cX2_spotFor 2 = .ok (.iload_n 2, 1) := by decide +kernel
theorem dX2_spotFor_3 : decode cX2_spotFor 3 = .ok (.aload_n 0, 1) := by decide +kernel
theorem dX2_spotFor_4 : decode cX2_spotFor 4 = .ok (.getfield 14, 3) := by decide +kernel
theorem dX2_spotFor_7 : decode cX2_spotFor 7 = .ok (.arraylength, 1) := by decide +kernel
theorem dX2_spotFor_8 : decode cX2_spotFor 8 = .ok (.if_icmp .ge 32, 3) := by decide +kernel
theorem dX2_spotFor_11 : decode cX2_spotFor 11 = .ok (.aload_n 0, 1) := by decide +kernel
theorem dX2_spotFor_12 : decode cX2_spotFor 12 = .ok (.getfield 14, 3) := by decide +kernel
theorem dX2_spotFor_15 : decode cX2_spotFor 15 = .ok (.iload_n 2, 1) := by decide +kernel
theorem dX2_spotFor_16 : decode cX2_spotFor 16 = .ok (.aaload, 1) := by decide +kernel
theorem dX2_spotFor_17 : decode cX2_spotFor 17 = .ok (.iload_n 1, 1) := by decide +kernel
theorem dX2_spotFor_18 : decode cX2_spotFor 18 = .ok (.invokevirtual 28, 3) := by decide +kernel
theorem dX2_spotFor_21 : decode cX2_spotFor 21 = .ok (.istore_n 3, 1) := by decide +kernel
theorem dX2_spotFor_22 : decode cX2_spotFor 22 = .ok (.iload_n 3, 1) := by decide +kernel
theorem dX2_spotFor_23 : decode cX2_spotFor 23 = .ok (.iconst (-1), 1) := by decide +kernel
theorem dX2_spotFor_24 : decode cX2_spotFor 24 = .ok (.if_icmp .eq 10, 3) := by decide +kernel
theorem dX2_spotFor_27 : decode cX2_spotFor 27 = .ok (.bipush 100, 2) := by decide +kernel
theorem dX2_spotFor_29 : decode cX2_spotFor 29 = .ok (.iload_n 2, 1) := by decide +kernel
theorem dX2_spotFor_30 : decode cX2_spotFor 30 = .ok (.imul, 1) := by decide +kernel
theorem dX2_spotFor_31 : decode cX2_spotFor 31 = .ok (.iload_n 3, 1) := by decide +kernel
theorem dX2_spotFor_32 : decode cX2_spotFor 32 = .ok (.iadd, 1) := by decide +kernel
theorem dX2_spotFor_33 : decode cX2_spotFor 33 = .ok (.ireturn, 1) := by decide +kernel
theorem dX2_spotFor_34 : decode cX2_spotFor 34 = .ok (.iinc 2 1, 3) := by decide +kernel
theorem dX2_spotFor_37 : decode cX2_spotFor 37 = .ok (.goto (-35), 3) := by decide +kernel
theorem dX2_spotFor_40 : decode cX2_spotFor 40 = .ok (.iconst (-1), 1) := by decide +kernel
theorem dX2_spotFor_41 : decode cX2_spotFor 41 = .ok (.ireturn, 1) := by decide +kernel
theorem dX2_lay_0 : decode cX2_lay 0 = .ok (.aload_n 0, 1) := by decide +kernel
theorem dX2_lay_1 : decode cX2_lay 1 = .ok (.iload_n 2, 1) := by decide +kernel
theorem dX2_lay_2 : decode cX2_lay 2 = .ok (.invokevirtual 32, 3) := by decide +kernel
theorem dX2_lay_5 : decode cX2_lay 5 = .ok (.istore_n 3, 1) := by decide +kernel
theorem dX2_lay_6 : decode cX2_lay 6 = .ok (.iload_n 3, 1) := by decide +kernel
theorem dX2_lay_7 : decode cX2_lay 7 = .ok (.bipush 100, 2) := by decide +kernel
theorem dX2_lay_9 : decode cX2_lay 9 = .ok (.idiv, 1) := by decide +kernel
theorem dX2_lay_10 : decode cX2_lay 10 = .ok (.istore 4, 2) := by decide +kernel
theorem dX2_lay_12 : decode cX2_lay 12 = .ok (.iload_n 3, 1) := by decide +kernel
theorem dX2_lay_13 : decode cX2_lay 13 = .ok (.bipush 100, 2) := by decide +kernel
theorem dX2_lay_15 : decode cX2_lay 15 = .ok (.irem, 1) := by decide +kernel
theorem dX2_lay_16 : decode cX2_lay 16 = .ok (.istore 5, 2) := by decide +kernel
theorem dX2_lay_18 : decode cX2_lay 18 = .ok (.aload_n 0, 1) := by decide +kernel
theorem dX2_lay_19 : decode cX2_lay 19 = .ok (.iload 4, 2) := by decide +kernel
theorem dX2_lay_21 : decode cX2_lay 21 = .ok (.iload 5, 2) := by decide +kernel
theorem dX2_lay_23 : decode cX2_lay 23 = .ok (.invokevirtual 35, 3) := by decide +kernel
theorem dX2_lay_26 : decode cX2_lay 26 = .ok (.ifCond .eq 17, 3) := by decide +kernel
theorem dX2_lay_29 : decode cX2_lay 29 = .ok (.aload_n 0, 1) := by decide +kernel
theorem dX2_lay_30 : decode cX2_lay 30 = .ok (.getfield 14, 3) := by decide +kernel
theorem dX2_lay_33 : decode cX2_lay 33 = .ok (.iload 4, 2) := by decide +kernel
theorem dX2_lay_35 : decode cX2_lay 35 = .ok (.aaload, 1) := by decide +kernel
theorem dX2_lay_36 : decode cX2_lay 36 = .ok (.iload_n 1, 1) := by decide +kernel
theorem dX2_lay_37 : decode cX2_lay 37 = .ok (.iload 5, 2) := by decide +kernel
theorem dX2_lay_39 : decode cX2_lay 39 = .ok (.iload_n 2, 1) := by decide +kernel
theorem dX2_lay_40 : decode cX2_lay 40 = .ok (.invokevirtual 39, 3) := by decide +kernel
theorem dX2_lay_43 : decode cX2_lay 43 = .ok (.return_, 1) := by decide +kernel
theorem dX2_clear_0 : decode cX2_clear 0 = .ok (.iconst 0, 1) := by decide +kernel
theorem dX2_clear_1 : decode cX2_clear 1 = .ok (.istore_n 2, 1) := by decide +kernel
theorem dX2_clear_2 : decode cX2_clear 2 = .ok (.iload_n 2, 1) := by decide +kernel
theorem dX2_clear_3 : decode cX2_clear 3 = .ok (.aload_n 0, 1) := by decide +kernel
theorem dX2_clear_4 : decode cX2_clear 4 = .ok (.getfield 14, 3) := by decide +kernel
theorem dX2_clear_7 : decode cX2_clear 7 = .ok (.arraylength, 1) := by decide +kernel
theorem dX2_clear_8 : decode cX2_clear 8 = .ok (.if_icmp .ge 19, 3) := by decide +kernel
theorem dX2_clear_11 : decode cX2_clear 11 = .ok (.aload_n 0, 1) := by decide +kernel
theorem dX2_clear_12 : decode cX2_clear 12 = .ok (.getfield 14, 3) := by decide +kernel
theorem dX2_clear_15 : decode cX2_clear 15 = .ok (.iload_n 2, 1) := by decide +kernel
theorem dX2_clear_16 : decode cX2_clear 16 = .ok (.aaload, 1) := by decide +kernel
theorem dX2_clear_17 : decode cX2_clear 17 = .ok (.iload_n 1, 1) := by decide +kernel
theorem dX2_clear_18 : decode cX2_clear 18 = .ok (.invokevirtual 43, 3) := by decide +kernel
theorem dX2_clear_21 : decode cX2_clear 21 = .ok (.iinc 2 1, 3) := by decide +kernel
theorem dX2_clear_24 : decode cX2_clear 24 = .ok (.goto (-22), 3) := by decide +kernel
theorem dX2_clear_27 : decode cX2_clear 27 = .ok (.return_, 1) := by decide +kernel
theorem dX2_shelfOf_0 : decode cX2_shelfOf 0 = .ok (.iconst 0, 1) := by decide +kernel
theorem dX2_shelfOf_1 : decode cX2_shelfOf 1 = .ok (.istore_n 2, 1) := by decide +kernel
theorem dX2_shelfOf_2 : decode cX2_shelfOf 2 = .ok (.iload_n 2, 1) := by decide +kernel
theorem dX2_shelfOf_3 : decode cX2_shelfOf 3 = .ok (.aload_n 0, 1) := by decide +kernel
theorem dX2_shelfOf_4 : decode cX2_shelfOf 4 = .ok (.getfield 14, 3) := by decide +kernel
theorem dX2_shelfOf_7 : decode cX2_shelfOf 7 = .ok (.arraylength, 1) := by decide +kernel
theorem dX2_shelfOf_8 : decode cX2_shelfOf 8 = .ok (.if_icmp .ge 25, 3) := by decide +kernel
theorem dX2_shelfOf_11 : decode cX2_shelfOf 11 = .ok (.aload_n 0, 1) := by decide +kernel
theorem dX2_shelfOf_12 : decode cX2_shelfOf 12 = .ok (.getfield 14, 3) := by decide +kernel
theorem dX2_shelfOf_15 : decode cX2_shelfOf 15 = .ok (.iload_n 2, 1) := by decide +kernel
theorem dX2_shelfOf_16 : decode cX2_shelfOf 16 = .ok (.aaload, 1) := by decide +kernel
theorem dX2_shelfOf_17 : decode cX2_shelfOf 17 = .ok (.iload_n 1, 1) := by decide +kernel
theorem dX2_shelfOf_18 : decode cX2_shelfOf 18 = .ok (.invokevirtual 46, 3) := by decide +kernel
theorem dX2_shelfOf_21 : decode cX2_shelfOf 21 = .ok (.iconst (-1), 1) := by decide +kernel
theorem dX2_shelfOf_22 : decode cX2_shelfOf 22 = .ok (.if_icmp .eq 5, 3) := by decide +kernel
theorem dX2_shelfOf_25 : decode cX2_shelfOf 25 = .ok (.iload_n 2, 1) := by decide +kernel
theorem dX2_shelfOf_26 : decode cX2_shelfOf 26 = .ok (.ireturn, 1) := by decide +kernel
theorem dX2_shelfOf_27 : decode cX2_shelfOf 27 = .ok (.iinc 2 1, 3) := by decide +kernel
theorem dX2_shelfOf_30 : decode cX2_shelfOf 30 = .ok (.goto (-28), 3) := by decide +kernel
theorem dX2_shelfOf_33 : decode cX2_shelfOf 33 = .ok (.iconst (-1), 1) := by decide +kernel
theorem dX2_shelfOf_34 : decode cX2_shelfOf 34 = .ok (.ireturn, 1) := by decide +kernel
theorem dX2_leftmostOf_0 : decode cX2_leftmostOf 0 = .ok (.iconst 0, 1) := by decide +kernel
theorem dX2_leftmostOf_1 : decode cX2_leftmostOf 1 = .ok (.istore_n 2, 1) := by decide +kernel
theorem dX2_leftmostOf_2 : decode cX2_leftmostOf 2 = .ok (.iload_n 2, 1) := by decide +kernel
theorem dX2_leftmostOf_3 : decode cX2_leftmostOf 3 = .ok (.aload_n 0, 1) := by decide +kernel
theorem dX2_leftmostOf_4 : decode cX2_leftmostOf 4 = .ok (.getfield 14, 3) := by decide +kernel
theorem dX2_leftmostOf_7 : decode cX2_leftmostOf 7 = .ok (.arraylength, 1) := by decide +kernel
theorem dX2_leftmostOf_8 : decode cX2_leftmostOf 8 = .ok (.if_icmp .ge 27, 3) := by decide +kernel
theorem dX2_leftmostOf_11 : decode cX2_leftmostOf 11 = .ok (.aload_n 0, 1) := by decide +kernel
theorem dX2_leftmostOf_12 : decode cX2_leftmostOf 12 = .ok (.getfield 14, 3) := by decide +kernel
theorem dX2_leftmostOf_15 : decode cX2_leftmostOf 15 = .ok (.iload_n 2, 1) := by decide +kernel
theorem dX2_leftmostOf_16 : decode cX2_leftmostOf 16 = .ok (.aaload, 1) := by decide +kernel
theorem dX2_leftmostOf_17 : decode cX2_leftmostOf 17 = .ok (.iload_n 1, 1) := by decide +kernel
theorem dX2_leftmostOf_18 : decode cX2_leftmostOf 18 = .ok (.invokevirtual 46, 3) := by decide +kernel
theorem dX2_leftmostOf_21 : decode cX2_leftmostOf 21 = .ok (.istore_n 3, 1) := by decide +kernel
theorem dX2_leftmostOf_22 : decode cX2_leftmostOf 22 = .ok (.iload_n 3, 1) := by decide +kernel
theorem dX2_leftmostOf_23 : decode cX2_leftmostOf 23 = .ok (.iconst (-1), 1) := by decide +kernel
theorem dX2_leftmostOf_24 : decode cX2_leftmostOf 24 = .ok (.if_icmp .eq 5, 3) := by decide +kernel
theorem dX2_leftmostOf_27 : decode cX2_leftmostOf 27 = .ok (.iload_n 3, 1) := by decide +kernel
theorem dX2_leftmostOf_28 : decode cX2_leftmostOf 28 = .ok (.ireturn, 1) := by decide +kernel
theorem dX2_leftmostOf_29 : decode cX2_leftmostOf 29 = .ok (.iinc 2 1, 3) := by decide +kernel
theorem dX2_leftmostOf_32 : decode cX2_leftmostOf 32 = .ok (.goto (-30), 3) := by decide +kernel
theorem dX2_leftmostOf_35 : decode cX2_leftmostOf 35 = .ok (.iconst (-1), 1) := by decide +kernel
theorem dX2_leftmostOf_36 : decode cX2_leftmostOf 36 = .ok (.ireturn, 1) := by decide +kernel
theorem dX2_taken_0 : decode cX2_taken 0 = .ok (.iconst 0, 1) := by decide +kernel
theorem dX2_taken_1 : decode cX2_taken 1 = .ok (.istore_n 1, 1) := by decide +kernel
theorem dX2_taken_2 : decode cX2_taken 2 = .ok (.iconst 0, 1) := by decide +kernel
theorem dX2_taken_3 : decode cX2_taken 3 = .ok (.istore_n 2, 1) := by decide +kernel
theorem dX2_taken_4 : decode cX2_taken 4 = .ok (.iload_n 2, 1) := by decide +kernel
theorem dX2_taken_5 : decode cX2_taken 5 = .ok (.aload_n 0, 1) := by decide +kernel
theorem dX2_taken_6 : decode cX2_taken 6 = .ok (.getfield 14, 3) := by decide +kernel
theorem dX2_taken_9 : decode cX2_taken 9 = .ok (.arraylength, 1) := by decide +kernel
theorem dX2_taken_10 : decode cX2_taken 10 = .ok (.if_icmp .ge 21, 3) := by decide +kernel
theorem dX2_taken_13 : decode cX2_taken 13 = .ok (.iload_n 1, 1) := by decide +kernel
theorem dX2_taken_14 : decode cX2_taken 14 = .ok (.aload_n 0, 1) := by decide +kernel
theorem dX2_taken_15 : decode cX2_taken 15 = .ok (.getfield 14, 3) := by decide +kernel
theorem dX2_taken_18 : decode cX2_taken 18 = .ok (.iload_n 2, 1) := by decide +kernel
theorem dX2_taken_19 : decode cX2_taken 19 = .ok (.aaload, 1) := by decide +kernel
theorem dX2_taken_20 : decode cX2_taken 20 = .ok (.invokevirtual 49, 3) := by decide +kernel
theorem dX2_taken_23 : decode cX2_taken 23 = .ok (.iadd, 1) := by decide +kernel
theorem dX2_taken_24 : decode cX2_taken 24 = .ok (.istore_n 1, 1) := by decide +kernel
theorem dX2_taken_25 : decode cX2_taken 25 = .ok (.iinc 2 1, 3) := by decide +kernel
theorem dX2_taken_28 : decode cX2_taken 28 = .ok (.goto (-24), 3) := by decide +kernel
theorem dX2_taken_31 : decode cX2_taken 31 = .ok (.iload_n 1, 1) := by decide +kernel
theorem dX2_taken_32 : decode cX2_taken 32 = .ok (.ireturn, 1) := by decide +kernel
theorem dX2_pushLeft_0 : decode cX2_pushLeft 0 = .ok (.iconst 0, 1) := by decide +kernel
theorem dX2_pushLeft_1 : decode cX2_pushLeft 1 = .ok (.istore_n 1, 1) := by decide +kernel
theorem dX2_pushLeft_2 : decode cX2_pushLeft 2 = .ok (.iconst 0, 1) := by decide +kernel
theorem dX2_pushLeft_3 : decode cX2_pushLeft 3 = .ok (.istore_n 2, 1) := by decide +kernel
theorem dX2_pushLeft_4 : decode cX2_pushLeft 4 = .ok (.iload_n 2, 1) := by decide +kernel
theorem dX2_pushLeft_5 : decode cX2_pushLeft 5 = .ok (.aload_n 0, 1) := by decide +kernel
theorem dX2_pushLeft_6 : decode cX2_pushLeft 6 = .ok (.getfield 14, 3) := by decide +kernel
theorem dX2_pushLeft_9 : decode cX2_pushLeft 9 = .ok (.arraylength, 1) := by decide +kernel
theorem dX2_pushLeft_10 : decode cX2_pushLeft 10 = .ok (.if_icmp .ge 21, 3) := by decide +kernel
theorem dX2_pushLeft_13 : decode cX2_pushLeft 13 = .ok (.iload_n 1, 1) := by decide +kernel
theorem dX2_pushLeft_14 : decode cX2_pushLeft 14 = .ok (.aload_n 0, 1) := by decide +kernel
theorem dX2_pushLeft_15 : decode cX2_pushLeft 15 = .ok (.getfield 14, 3) := by decide +kernel
theorem dX2_pushLeft_18 : decode cX2_pushLeft 18 = .ok (.iload_n 2, 1) := by decide +kernel
theorem dX2_pushLeft_19 : decode cX2_pushLeft 19 = .ok (.aaload, 1) := by decide +kernel
theorem dX2_pushLeft_20 : decode cX2_pushLeft 20 = .ok (.invokevirtual 53, 3) := by decide +kernel
theorem dX2_pushLeft_23 : decode cX2_pushLeft 23 = .ok (.iadd, 1) := by decide +kernel
theorem dX2_pushLeft_24 : decode cX2_pushLeft 24 = .ok (.istore_n 1, 1) := by decide +kernel
theorem dX2_pushLeft_25 : decode cX2_pushLeft 25 = .ok (.iinc 2 1, 3) := by decide +kernel
theorem dX2_pushLeft_28 : decode cX2_pushLeft 28 = .ok (.goto (-24), 3) := by decide +kernel
theorem dX2_pushLeft_31 : decode cX2_pushLeft 31 = .ok (.iload_n 1, 1) := by decide +kernel
theorem dX2_pushLeft_32 : decode cX2_pushLeft 32 = .ok (.ireturn, 1) := by decide +kernel
theorem dX2_copyFrom_0 : decode cX2_copyFrom 0 = .ok (.iconst 0, 1) := by decide +kernel
theorem dX2_copyFrom_1 : decode cX2_copyFrom 1 = .ok (.istore_n 2, 1) := by decide +kernel
theorem dX2_copyFrom_2 : decode cX2_copyFrom 2 = .ok (.iload_n 2, 1) := by decide +kernel
theorem dX2_copyFrom_3 : decode cX2_copyFrom 3 = .ok (.aload_n 0, 1) := by decide +kernel
theorem dX2_copyFrom_4 : decode cX2_copyFrom 4 = .ok (.getfield 14, 3) := by decide +kernel
theorem dX2_copyFrom_7 : decode cX2_copyFrom 7 = .ok (.arraylength, 1) := by decide +kernel
theorem dX2_copyFrom_8 : decode cX2_copyFrom 8 = .ok (.if_icmp .ge 24, 3) := by decide +kernel
theorem dX2_copyFrom_11 : decode cX2_copyFrom 11 = .ok (.aload_n 0, 1) := by decide +kernel
theorem dX2_copyFrom_12 : decode cX2_copyFrom 12 = .ok (.getfield 14, 3) := by decide +kernel
theorem dX2_copyFrom_15 : decode cX2_copyFrom 15 = .ok (.iload_n 2, 1) := by decide +kernel
theorem dX2_copyFrom_16 : decode cX2_copyFrom 16 = .ok (.aaload, 1) := by decide +kernel
theorem dX2_copyFrom_17 : decode cX2_copyFrom 17 = .ok (.aload_n 1, 1) := by decide +kernel
theorem dX2_copyFrom_18 : decode cX2_copyFrom 18 = .ok (.getfield 14, 3) := by decide +kernel
theorem dX2_copyFrom_21 : decode cX2_copyFrom 21 = .ok (.iload_n 2, 1) := by decide +kernel
theorem dX2_copyFrom_22 : decode cX2_copyFrom 22 = .ok (.aaload, 1) := by decide +kernel
theorem dX2_copyFrom_23 : decode cX2_copyFrom 23 = .ok (.invokevirtual 56, 3) := by decide +kernel
theorem dX2_copyFrom_26 : decode cX2_copyFrom 26 = .ok (.iinc 2 1, 3) := by decide +kernel
theorem dX2_copyFrom_29 : decode cX2_copyFrom 29 = .ok (.goto (-27), 3) := by decide +kernel
theorem dX2_copyFrom_32 : decode cX2_copyFrom 32 = .ok (.return_, 1) := by decide +kernel
theorem dX3_init_0 : decode cX3_init 0 = .ok (.aload_n 0, 1) := by decide +kernel
theorem dX3_init_1 : decode cX3_init 1 = .ok (.invokespecial 3, 3) := by decide +kernel
theorem dX3_init_4 : decode cX3_init 4 = .ok (.aload_n 0, 1) := by decide +kernel
theorem dX3_init_5 : decode cX3_init 5 = .ok (.iload_n 1, 1) := by decide +kernel
theorem dX3_init_6 : decode cX3_init 6 = .ok (.newarray .int, 2) := by decide +kernel
theorem dX3_init_8 : decode cX3_init 8 = .ok (.putfield 9, 3) := by decide +kernel
theorem dX3_init_11 : decode cX3_init 11 = .ok (.iconst 0, 1) := by decide +kernel
theorem dX3_init_12 : decode cX3_init 12 = .ok (.istore_n 2, 1) := by decide +kernel
theorem dX3_init_13 : decode cX3_init 13 = .ok (.iload_n 2, 1) := by decide +kernel
theorem dX3_init_14 : decode cX3_init 14 = .ok (.iload_n 1, 1) := by decide +kernel
theorem dX3_init_15 : decode cX3_init 15 = .ok (.if_icmp .ge 16, 3) := by decide +kernel
theorem dX3_init_18 : decode cX3_init 18 = .ok (.aload_n 0, 1) := by decide +kernel
theorem dX3_init_19 : decode cX3_init 19 = .ok (.getfield 9, 3) := by decide +kernel
theorem dX3_init_22 : decode cX3_init 22 = .ok (.iload_n 2, 1) := by decide +kernel
theorem dX3_init_23 : decode cX3_init 23 = .ok (.iconst (-1), 1) := by decide +kernel
theorem dX3_init_24 : decode cX3_init 24 = .ok (.iastore, 1) := by decide +kernel
theorem dX3_init_25 : decode cX3_init 25 = .ok (.iinc 2 1, 3) := by decide +kernel
theorem dX3_init_28 : decode cX3_init 28 = .ok (.goto (-15), 3) := by decide +kernel
theorem dX3_init_31 : decode cX3_init 31 = .ok (.return_, 1) := by decide +kernel
theorem dX3_gapFor_0 : decode cX3_gapFor 0 = .ok (.iconst 0, 1) := by decide +kernel
theorem dX3_gapFor_1 : decode cX3_gapFor 1 = .ok (.istore_n 2, 1) := by decide +kernel
theorem dX3_gapFor_2 : decode cX3_gapFor 2 = .ok (.iconst 0, 1) := by decide +kernel
theorem dX3_gapFor_3 : decode cX3_gapFor 3 = .ok (.istore_n 3, 1) := by decide +kernel
theorem dX3_gapFor_4 : decode cX3_gapFor 4 = .ok (.iload_n 3, 1) := by decide +kernel
theorem dX3_gapFor_5 : decode cX3_gapFor 5 = .ok (.aload_n 0, 1) := by decide +kernel
theorem dX3_gapFor_6 : decode cX3_gapFor 6 = .ok (.getfield 9, 3) := by decide +kernel
theorem dX3_gapFor_9 : decode cX3_gapFor 9 = .ok (.arraylength, 1) := by decide +kernel
theorem dX3_gapFor_10 : decode cX3_gapFor 10 = .ok (.if_icmp .ge 38, 3) := by decide +kernel
theorem dX3_gapFor_13 : decode cX3_gapFor 13 = .ok (.aload_n 0, 1) := by decide +kernel
theorem dX3_gapFor_14 : decode cX3_gapFor 14 = .ok (.getfield 9, 3) := by decide +kernel
theorem dX3_gapFor_17 : decode cX3_gapFor 17 = .ok (.iload_n 3, 1) := by decide +kernel
theorem dX3_gapFor_18 : decode cX3_gapFor 18 = .ok (.iaload, 1) := by decide +kernel
theorem dX3_gapFor_19 : decode cX3_gapFor 19 = .ok (.iconst (-1), 1) := by decide +kernel
theorem dX3_gapFor_20 : decode cX3_gapFor 20 = .ok (.if_icmp .ne 9, 3) := by decide +kernel
theorem dX3_gapFor_23 : decode cX3_gapFor 23 = .ok (.iload_n 2, 1) := by decide +kernel
theorem dX3_gapFor_24 : decode cX3_gapFor 24 = .ok (.iconst 1, 1) := by decide +kernel
theorem dX3_gapFor_25 : decode cX3_gapFor 25 = .ok (.iadd, 1) := by decide +kernel
theorem dX3_gapFor_26 : decode cX3_gapFor 26 = .ok (.goto 4, 3) := by decide +kernel
theorem dX3_gapFor_29 : decode cX3_gapFor 29 = .ok (.iconst 0, 1) := by decide +kernel
theorem dX3_gapFor_30 : decode cX3_gapFor 30 = .ok (.istore_n 2, 1) := by decide +kernel
theorem dX3_gapFor_31 : decode cX3_gapFor 31 = .ok (.iload_n 2, 1) := by decide +kernel
theorem dX3_gapFor_32 : decode cX3_gapFor 32 = .ok (.iload_n 1, 1) := by decide +kernel
theorem dX3_gapFor_33 : decode cX3_gapFor 33 = .ok (.if_icmp .ne 9, 3) := by decide +kernel
theorem dX3_gapFor_36 : decode cX3_gapFor 36 = .ok (.iload_n 3, 1) := by decide +kernel
theorem dX3_gapFor_37 : decode cX3_gapFor 37 = .ok (.iload_n 1, 1) := by decide +kernel
theorem dX3_gapFor_38 : decode cX3_gapFor 38 = .ok (.isub, 1) := by decide +kernel
theorem dX3_gapFor_39 : decode cX3_gapFor 39 = .ok (.iconst 1, 1) := by decide +kernel
theorem dX3_gapFor_40 : decode cX3_gapFor 40 = .ok (.iadd, 1) := by decide +kernel
theorem dX3_gapFor_41 : decode cX3_gapFor 41 = .ok (.ireturn, 1) := by decide +kernel
theorem dX3_gapFor_42 : decode cX3_gapFor 42 = .ok (.iinc 3 1, 3) := by decide +kernel
theorem dX3_gapFor_45 : decode cX3_gapFor 45 = .ok (.goto (-41), 3) := by decide +kernel
theorem dX3_gapFor_48 : decode cX3_gapFor 48 = .ok (.iconst (-1), 1) := by decide +kernel
theorem dX3_gapFor_49 : decode cX3_gapFor 49 = .ok (.ireturn, 1) := by decide +kernel
theorem dX3_lay_0 : decode cX3_lay 0 = .ok (.iconst 0, 1) := by decide +kernel
theorem dX3_lay_1 : decode cX3_lay 1 = .ok (.istore 4, 2) := by decide +kernel
theorem dX3_lay_3 : decode cX3_lay 3 = .ok (.iload 4, 2) := by decide +kernel
theorem dX3_lay_5 : decode cX3_lay 5 = .ok (.aload_n 0, 1) := by decide +kernel
theorem dX3_lay_6 : decode cX3_lay 6 = .ok (.getfield 9, 3) := by decide +kernel
theorem dX3_lay_9 : decode cX3_lay 9 = .ok (.arraylength, 1) := by decide +kernel
theorem dX3_lay_10 : decode cX3_lay 10 = .ok (.if_icmp .ge 31, 3) := by decide +kernel
theorem dX3_lay_13 : decode cX3_lay 13 = .ok (.iload 4, 2) := by decide +kernel
theorem dX3_lay_15 : decode cX3_lay 15 = .ok (.iload_n 2, 1) := by decide +kernel
theorem dX3_lay_16 : decode cX3_lay 16 = .ok (.if_icmp .lt 19, 3) := by decide +kernel
theorem dX3_lay_19 : decode cX3_lay 19 = .ok (.iload 4, 2) := by decide +kernel
theorem dX3_lay_21 : decode cX3_lay 21 = .ok (.iload_n 2, 1) := by decide +kernel
theorem dX3_lay_22 : decode cX3_lay 22 = .ok (.iload_n 3, 1) := by decide +kernel
theorem dX3_lay_23 : decode cX3_lay 23 = .ok (.iadd, 1) := by decide +kernel
theorem dX3_lay_24 : decode cX3_lay 24 = .ok (.if_icmp .ge 11, 3) := by decide +kernel
theorem dX3_lay_27 : decode cX3_lay 27 = .ok (.aload_n 0, 1) := by decide +kernel
theorem dX3_lay_28 : decode cX3_lay 28 = .ok (.getfield 9, 3) := by decide +kernel
theorem dX3_lay_31 : decode cX3_lay 31 = .ok (.iload 4, 2) := by decide +kernel
theorem dX3_lay_33 : decode cX3_lay 33 = .ok (.iload_n 1, 1) := by decide +kernel
theorem dX3_lay_34 : decode cX3_lay 34 = .ok (.iastore, 1) := by decide +kernel
theorem dX3_lay_35 : decode cX3_lay 35 = .ok (.iinc 4 1, 3) := by decide +kernel
theorem dX3_lay_38 : decode cX3_lay 38 = .ok (.goto (-35), 3) := by decide +kernel
theorem dX3_lay_41 : decode cX3_lay 41 = .ok (.return_, 1) := by decide +kernel
theorem dX3_clear_0 : decode cX3_clear 0 = .ok (.iconst 0, 1) := by decide +kernel
theorem dX3_clear_1 : decode cX3_clear 1 = .ok (.istore_n 2, 1) := by decide +kernel
theorem dX3_clear_2 : decode cX3_clear 2 = .ok (.iload_n 2, 1) := by decide +kernel
theorem dX3_clear_3 : decode cX3_clear 3 = .ok (.aload_n 0, 1) := by decide +kernel
theorem dX3_clear_4 : decode cX3_clear 4 = .ok (.getfield 9, 3) := by decide +kernel
theorem dX3_clear_7 : decode cX3_clear 7 = .ok (.arraylength, 1) := by decide +kernel
theorem dX3_clear_8 : decode cX3_clear 8 = .ok (.if_icmp .ge 26, 3) := by decide +kernel
theorem dX3_clear_11 : decode cX3_clear 11 = .ok (.aload_n 0, 1) := by decide +kernel
theorem dX3_clear_12 : decode cX3_clear 12 = .ok (.getfield 9, 3) := by decide +kernel
theorem dX3_clear_15 : decode cX3_clear 15 = .ok (.iload_n 2, 1) := by decide +kernel
theorem dX3_clear_16 : decode cX3_clear 16 = .ok (.iaload, 1) := by decide +kernel
theorem dX3_clear_17 : decode cX3_clear 17 = .ok (.iload_n 1, 1) := by decide +kernel
theorem dX3_clear_18 : decode cX3_clear 18 = .ok (.if_icmp .ne 10, 3) := by decide +kernel
theorem dX3_clear_21 : decode cX3_clear 21 = .ok (.aload_n 0, 1) := by decide +kernel
theorem dX3_clear_22 : decode cX3_clear 22 = .ok (.getfield 9, 3) := by decide +kernel
theorem dX3_clear_25 : decode cX3_clear 25 = .ok (.iload_n 2, 1) := by decide +kernel
theorem dX3_clear_26 : decode cX3_clear 26 = .ok (.iconst (-1), 1) := by decide +kernel
theorem dX3_clear_27 : decode cX3_clear 27 = .ok (.iastore, 1) := by decide +kernel
theorem dX3_clear_28 : decode cX3_clear 28 = .ok (.iinc 2 1, 3) := by decide +kernel
theorem dX3_clear_31 : decode cX3_clear 31 = .ok (.goto (-29), 3) := by decide +kernel
theorem dX3_clear_34 : decode cX3_clear 34 = .ok (.return_, 1) := by decide +kernel
theorem dX3_leftmostOf_0 : decode cX3_leftmostOf 0 = .ok (.iconst 0, 1) := by decide +kernel
theorem dX3_leftmostOf_1 : decode cX3_leftmostOf 1 = .ok (.istore_n 2, 1) := by decide +kernel
theorem dX3_leftmostOf_2 : decode cX3_leftmostOf 2 = .ok (.iload_n 2, 1) := by decide +kernel
theorem dX3_leftmostOf_3 : decode cX3_leftmostOf 3 = .ok (.aload_n 0, 1) := by decide +kernel
theorem dX3_leftmostOf_4 : decode cX3_leftmostOf 4 = .ok (.getfield 9, 3) := by decide +kernel
theorem dX3_leftmostOf_7 : decode cX3_leftmostOf 7 = .ok (.arraylength, 1) := by decide +kernel
theorem dX3_leftmostOf_8 : decode cX3_leftmostOf 8 = .ok (.if_icmp .ge 21, 3) := by decide +kernel
theorem dX3_leftmostOf_11 : decode cX3_leftmostOf 11 = .ok (.aload_n 0, 1) := by decide +kernel
theorem dX3_leftmostOf_12 : decode cX3_leftmostOf 12 = .ok (.getfield 9, 3) := by decide +kernel
theorem dX3_leftmostOf_15 : decode cX3_leftmostOf 15 = .ok (.iload_n 2, 1) := by decide +kernel
theorem dX3_leftmostOf_16 : decode cX3_leftmostOf 16 = .ok (.iaload, 1) := by decide +kernel
theorem dX3_leftmostOf_17 : decode cX3_leftmostOf 17 = .ok (.iload_n 1, 1) := by decide +kernel
theorem dX3_leftmostOf_18 : decode cX3_leftmostOf 18 = .ok (.if_icmp .ne 5, 3) := by decide +kernel
theorem dX3_leftmostOf_21 : decode cX3_leftmostOf 21 = .ok (.iload_n 2, 1) := by decide +kernel
theorem dX3_leftmostOf_22 : decode cX3_leftmostOf 22 = .ok (.ireturn, 1) := by decide +kernel
theorem dX3_leftmostOf_23 : decode cX3_leftmostOf 23 = .ok (.iinc 2 1, 3) := by decide +kernel
theorem dX3_leftmostOf_26 : decode cX3_leftmostOf 26 = .ok (.goto (-24), 3) := by decide +kernel
theorem dX3_leftmostOf_29 : decode cX3_leftmostOf 29 = .ok (.iconst (-1), 1) := by decide +kernel
theorem dX3_leftmostOf_30 : decode cX3_leftmostOf 30 = .ok (.ireturn, 1) := by decide +kernel
theorem dX3_taken_0 : decode cX3_taken 0 = .ok (.iconst 0, 1) := by decide +kernel
theorem dX3_taken_1 : decode cX3_taken 1 = .ok (.istore_n 1, 1) := by decide +kernel
theorem dX3_taken_2 : decode cX3_taken 2 = .ok (.iconst 0, 1) := by decide +kernel
theorem dX3_taken_3 : decode cX3_taken 3 = .ok (.istore_n 2, 1) := by decide +kernel
theorem dX3_taken_4 : decode cX3_taken 4 = .ok (.iload_n 2, 1) := by decide +kernel
theorem dX3_taken_5 : decode cX3_taken 5 = .ok (.aload_n 0, 1) := by decide +kernel
theorem dX3_taken_6 : decode cX3_taken 6 = .ok (.getfield 9, 3) := by decide +kernel
theorem dX3_taken_9 : decode cX3_taken 9 = .ok (.arraylength, 1) := by decide +kernel
theorem dX3_taken_10 : decode cX3_taken 10 = .ok (.if_icmp .ge 22, 3) := by decide +kernel
theorem dX3_taken_13 : decode cX3_taken 13 = .ok (.aload_n 0, 1) := by decide +kernel
theorem dX3_taken_14 : decode cX3_taken 14 = .ok (.getfield 9, 3) := by decide +kernel
theorem dX3_taken_17 : decode cX3_taken 17 = .ok (.iload_n 2, 1) := by decide +kernel
theorem dX3_taken_18 : decode cX3_taken 18 = .ok (.iaload, 1) := by decide +kernel
theorem dX3_taken_19 : decode cX3_taken 19 = .ok (.iconst (-1), 1) := by decide +kernel
theorem dX3_taken_20 : decode cX3_taken 20 = .ok (.if_icmp .eq 6, 3) := by decide +kernel
theorem dX3_taken_23 : decode cX3_taken 23 = .ok (.iinc 1 1, 3) := by decide +kernel
theorem dX3_taken_26 : decode cX3_taken 26 = .ok (.iinc 2 1, 3) := by decide +kernel
theorem dX3_taken_29 : decode cX3_taken 29 = .ok (.goto (-25), 3) := by decide +kernel
theorem dX3_taken_32 : decode cX3_taken 32 = .ok (.iload_n 1, 1) := by decide +kernel
theorem dX3_taken_33 : decode cX3_taken 33 = .ok (.ireturn, 1) := by decide +kernel
theorem dX3_pushLeft_0 : decode cX3_pushLeft 0 = .ok (.iconst 0, 1) := by decide +kernel
theorem dX3_pushLeft_1 : decode cX3_pushLeft 1 = .ok (.istore_n 1, 1) := by decide +kernel
theorem dX3_pushLeft_2 : decode cX3_pushLeft 2 = .ok (.iconst (-1), 1) := by decide +kernel
theorem dX3_pushLeft_3 : decode cX3_pushLeft 3 = .ok (.istore_n 2, 1) := by decide +kernel
theorem dX3_pushLeft_4 : decode cX3_pushLeft 4 = .ok (.iconst 0, 1) := by decide +kernel
theorem dX3_pushLeft_5 : decode cX3_pushLeft 5 = .ok (.istore_n 3, 1) := by decide +kernel
theorem dX3_pushLeft_6 : decode cX3_pushLeft 6 = .ok (.iconst 0, 1) := by decide +kernel
theorem dX3_pushLeft_7 : decode cX3_pushLeft 7 = .ok (.istore 4, 2) := by decide +kernel
theorem dX3_pushLeft_9 : decode cX3_pushLeft 9 = .ok (.iload 4, 2) := by decide +kernel
theorem dX3_pushLeft_11 : decode cX3_pushLeft 11 = .ok (.aload_n 0, 1) := by decide +kernel
theorem dX3_pushLeft_12 : decode cX3_pushLeft 12 = .ok (.getfield 9, 3) := by decide +kernel
theorem dX3_pushLeft_15 : decode cX3_pushLeft 15 = .ok (.arraylength, 1) := by decide +kernel
theorem dX3_pushLeft_16 : decode cX3_pushLeft 16 = .ok (.if_icmp .ge 61, 3) := by decide +kernel
theorem dX3_pushLeft_19 : decode cX3_pushLeft 19 = .ok (.aload_n 0, 1) := by decide +kernel
theorem dX3_pushLeft_20 : decode cX3_pushLeft 20 = .ok (.getfield 9, 3) := by decide +kernel
theorem dX3_pushLeft_23 : decode cX3_pushLeft 23 = .ok (.iload 4, 2) := by decide +kernel
theorem dX3_pushLeft_25 : decode cX3_pushLeft 25 = .ok (.iaload, 1) := by decide +kernel
theorem dX3_pushLeft_26 : decode cX3_pushLeft 26 = .ok (.istore 5, 2) := by decide +kernel
theorem dX3_pushLeft_28 : decode cX3_pushLeft 28 = .ok (.iload 5, 2) := by decide +kernel
theorem dX3_pushLeft_30 : decode cX3_pushLeft 30 = .ok (.iconst (-1), 1) := by decide +kernel
theorem dX3_pushLeft_31 : decode cX3_pushLeft 31 = .ok (.if_icmp .eq 40, 3) := by decide +kernel
theorem dX3_pushLeft_34 : decode cX3_pushLeft 34 = .ok (.iload 5, 2) := by decide +kernel
theorem dX3_pushLeft_36 : decode cX3_pushLeft 36 = .ok (.iload_n 2, 1) := by decide +kernel
theorem dX3_pushLeft_37 : decode cX3_pushLeft 37 = .ok (.if_icmp .eq 12, 3) := by decide +kernel
theorem dX3_pushLeft_40 : decode cX3_pushLeft 40 = .ok (.iload_n 3, 1) := by decide +kernel
theorem dX3_pushLeft_41 : decode cX3_pushLeft 41 = .ok (.iload 4, 2) := by decide +kernel
theorem dX3_pushLeft_43 : decode cX3_pushLeft 43 = .ok (.if_icmp .ge 6, 3) := by decide +kernel
theorem dX3_pushLeft_46 : decode cX3_pushLeft 46 = .ok (.iinc 1 1, 3) := by decide +kernel
theorem dX3_pushLeft_49 : decode cX3_pushLeft 49 = .ok (.iload 5, 2) := by decide +kernel
theorem dX3_pushLeft_51 : decode cX3_pushLeft 51 = .ok (.istore_n 2, 1) := by decide +kernel
theorem dX3_pushLeft_52 : decode cX3_pushLeft 52 = .ok (.aload_n 0, 1) := by decide +kernel
theorem dX3_pushLeft_53 : decode cX3_pushLeft 53 = .ok (.getfield 9, 3) := by decide +kernel
theorem dX3_pushLeft_56 : decode cX3_pushLeft 56 = .ok (.iload 4, 2) := by decide +kernel
theorem dX3_pushLeft_58 : decode cX3_pushLeft 58 = .ok (.iconst (-1), 1) := by decide +kernel
theorem dX3_pushLeft_59 : decode cX3_pushLeft 59 = .ok (.iastore, 1) := by decide +kernel
theorem dX3_pushLeft_60 : decode cX3_pushLeft 60 = .ok (.aload_n 0, 1) := by decide +kernel
theorem dX3_pushLeft_61 : decode cX3_pushLeft 61 = .ok (.getfield 9, 3) := by decide +kernel
theorem dX3_pushLeft_64 : decode cX3_pushLeft 64 = .ok (.iload_n 3, 1) := by decide +kernel
theorem dX3_pushLeft_65 : decode cX3_pushLeft 65 = .ok (.iload 5, 2) := by decide +kernel
theorem dX3_pushLeft_67 : decode cX3_pushLeft 67 = .ok (.iastore, 1) := by decide +kernel
theorem dX3_pushLeft_68 : decode cX3_pushLeft 68 = .ok (.iinc 3 1, 3) := by decide +kernel
theorem dX3_pushLeft_71 : decode cX3_pushLeft 71 = .ok (.iinc 4 1, 3) := by decide +kernel
theorem dX3_pushLeft_74 : decode cX3_pushLeft 74 = .ok (.goto (-65), 3) := by decide +kernel
theorem dX3_pushLeft_77 : decode cX3_pushLeft 77 = .ok (.iload_n 1, 1) := by decide +kernel
theorem dX3_pushLeft_78 : decode cX3_pushLeft 78 = .ok (.ireturn, 1) := by decide +kernel
theorem dX3_copyFrom_0 : decode cX3_copyFrom 0 = .ok (.iconst 0, 1) := by decide +kernel
theorem dX3_copyFrom_1 : decode cX3_copyFrom 1 = .ok (.istore_n 2, 1) := by decide +kernel
theorem dX3_copyFrom_2 : decode cX3_copyFrom 2 = .ok (.iload_n 2, 1) := by decide +kernel
theorem dX3_copyFrom_3 : decode cX3_copyFrom 3 = .ok (.aload_n 0, 1) := by decide +kernel
theorem dX3_copyFrom_4 : decode cX3_copyFrom 4 = .ok (.getfield 9, 3) := by decide +kernel
theorem dX3_copyFrom_7 : decode cX3_copyFrom 7 = .ok (.arraylength, 1) := by decide +kernel
theorem dX3_copyFrom_8 : decode cX3_copyFrom 8 = .ok (.if_icmp .ge 30, 3) := by decide +kernel
theorem dX3_copyFrom_11 : decode cX3_copyFrom 11 = .ok (.iload_n 2, 1) := by decide +kernel
theorem dX3_copyFrom_12 : decode cX3_copyFrom 12 = .ok (.aload_n 1, 1) := by decide +kernel
theorem dX3_copyFrom_13 : decode cX3_copyFrom 13 = .ok (.getfield 9, 3) := by decide +kernel
theorem dX3_copyFrom_16 : decode cX3_copyFrom 16 = .ok (.arraylength, 1) := by decide +kernel
theorem dX3_copyFrom_17 : decode cX3_copyFrom 17 = .ok (.if_icmp .ge 21, 3) := by decide +kernel
theorem dX3_copyFrom_20 : decode cX3_copyFrom 20 = .ok (.aload_n 0, 1) := by decide +kernel
theorem dX3_copyFrom_21 : decode cX3_copyFrom 21 = .ok (.getfield 9, 3) := by decide +kernel
theorem dX3_copyFrom_24 : decode cX3_copyFrom 24 = .ok (.iload_n 2, 1) := by decide +kernel
theorem dX3_copyFrom_25 : decode cX3_copyFrom 25 = .ok (.aload_n 1, 1) := by decide +kernel
theorem dX3_copyFrom_26 : decode cX3_copyFrom 26 = .ok (.getfield 9, 3) := by decide +kernel
theorem dX3_copyFrom_29 : decode cX3_copyFrom 29 = .ok (.iload_n 2, 1) := by decide +kernel
theorem dX3_copyFrom_30 : decode cX3_copyFrom 30 = .ok (.iaload, 1) := by decide +kernel
theorem dX3_copyFrom_31 : decode cX3_copyFrom 31 = .ok (.iastore, 1) := by decide +kernel
theorem dX3_copyFrom_32 : decode cX3_copyFrom 32 = .ok (.iinc 2 1, 3) := by decide +kernel
theorem dX3_copyFrom_35 : decode cX3_copyFrom 35 = .ok (.goto (-33), 3) := by decide +kernel
theorem dX3_copyFrom_38 : decode cX3_copyFrom 38 = .ok (.return_, 1) := by decide +kernel
theorem dX5_init_0 : decode cX5_init 0 = .ok (.aload_n 0, 1) := by decide +kernel
theorem dX5_init_1 : decode cX5_init 1 = .ok (.invokespecial 3, 3) := by decide +kernel
theorem dX5_init_4 : decode cX5_init 4 = .ok (.return_, 1) := by decide +kernel
theorem dX5_describe_0 : decode cX5_describe 0 = .ok (.aload_n 0, 1) := by decide +kernel
theorem dX5_describe_1 : decode cX5_describe 1 = .ok (.iload_n 1, 1) := by decide +kernel
theorem dX5_describe_2 : decode cX5_describe 2 = .ok (.putfield 9, 3) := by decide +kernel
theorem dX5_describe_5 : decode cX5_describe 5 = .ok (.aload_n 0, 1) := by decide +kernel
theorem dX5_describe_6 : decode cX5_describe 6 = .ok (.iload_n 2, 1) := by decide +kernel
theorem dX5_describe_7 : decode cX5_describe 7 = .ok (.putfield 15, 3) := by decide +kernel
theorem dX5_describe_10 : decode cX5_describe 10 = .ok (.aload_n 0, 1) := by decide +kernel
theorem dX5_describe_11 : decode cX5_describe 11 = .ok (.iload_n 3, 1) := by decide +kernel
theorem dX5_describe_12 : decode cX5_describe 12 = .ok (.putfield 18, 3) := by decide +kernel
theorem dX5_describe_15 : decode cX5_describe 15 = .ok (.aload_n 0, 1) := by decide +kernel
theorem dX5_describe_16 : decode cX5_describe 16 = .ok (.iload 4, 2) := by decide +kernel
theorem dX5_describe_18 : decode cX5_describe 18 = .ok (.putfield 21, 3) := by decide +kernel
theorem dX5_describe_21 : decode cX5_describe 21 = .ok (.return_, 1) := by decide +kernel
theorem dX5_lend_0 : decode cX5_lend 0 = .ok (.aload_n 0, 1) := by decide +kernel
theorem dX5_lend_1 : decode cX5_lend 1 = .ok (.iload_n 1, 1) := by decide +kernel
theorem dX5_lend_2 : decode cX5_lend 2 = .ok (.putfield 24, 3) := by decide +kernel
theorem dX5_lend_5 : decode cX5_lend 5 = .ok (.aload_n 0, 1) := by decide +kernel
theorem dX5_lend_6 : decode cX5_lend 6 = .ok (.iload_n 2, 1) := by decide +kernel
theorem dX5_lend_7 : decode cX5_lend 7 = .ok (.putfield 27, 3) := by decide +kernel
theorem dX5_lend_10 : decode cX5_lend 10 = .ok (.aload_n 0, 1) := by decide +kernel
theorem dX5_lend_11 : decode cX5_lend 11 = .ok (.iload_n 2, 1) := by decide +kernel
theorem dX5_lend_12 : decode cX5_lend 12 = .ok (.bipush 60, 2) := by decide +kernel
theorem dX5_lend_14 : decode cX5_lend 14 = .ok (.iadd, 1) := by decide +kernel
theorem dX5_lend_15 : decode cX5_lend 15 = .ok (.putfield 30, 3) := by decide +kernel
theorem dX5_lend_18 : decode cX5_lend 18 = .ok (.aload_n 0, 1) := by decide +kernel
theorem dX5_lend_19 : decode cX5_lend 19 = .ok (.iconst 0, 1) := by decide +kernel
theorem dX5_lend_20 : decode cX5_lend 20 = .ok (.putfield 33, 3) := by decide +kernel
theorem dX5_lend_23 : decode cX5_lend 23 = .ok (.aload_n 0, 1) := by decide +kernel
theorem dX5_lend_24 : decode cX5_lend 24 = .ok (.iconst 0, 1) := by decide +kernel
theorem dX5_lend_25 : decode cX5_lend 25 = .ok (.putfield 36, 3) := by decide +kernel
theorem dX5_lend_28 : decode cX5_lend 28 = .ok (.aload_n 0, 1) := by decide +kernel
theorem dX5_lend_29 : decode cX5_lend 29 = .ok (.iconst 0, 1) := by decide +kernel
theorem dX5_lend_30 : decode cX5_lend 30 = .ok (.putfield 39, 3) := by decide +kernel
theorem dX5_lend_33 : decode cX5_lend 33 = .ok (.return_, 1) := by decide +kernel
theorem dX5_extend_0 : decode cX5_extend 0 = .ok (.aload_n 0, 1) := by decide +kernel
theorem dX5_extend_1 : decode cX5_extend 1 = .ok (.iload_n 1, 1) := by decide +kernel
theorem dX5_extend_2 : decode cX5_extend 2 = .ok (.putfield 27, 3) := by decide +kernel
theorem dX5_extend_5 : decode cX5_extend 5 = .ok (.aload_n 0, 1) := by decide +kernel
theorem dX5_extend_6 : decode cX5_extend 6 = .ok (.iload_n 1, 1) := by decide +kernel
theorem dX5_extend_7 : decode cX5_extend 7 = .ok (.bipush 60, 2) := by decide +kernel
theorem dX5_extend_9 : decode cX5_extend 9 = .ok (.iadd, 1) := by decide +kernel
theorem dX5_extend_10 : decode cX5_extend 10 = .ok (.putfield 30, 3) := by decide +kernel
theorem dX5_extend_13 : decode cX5_extend 13 = .ok (.aload_n 0, 1) := by decide +kernel
theorem dX5_extend_14 : decode cX5_extend 14 = .ok (.dup, 1) := by decide +kernel
theorem dX5_extend_15 : decode cX5_extend 15 = .ok (.getfield 39, 3) := by decide +kernel
theorem dX5_extend_18 : decode cX5_extend 18 = .ok (.iconst 1, 1) := by decide +kernel
theorem dX5_extend_19 : decode cX5_extend 19 = .ok (.iadd, 1) := by decide +kernel
theorem dX5_extend_20 : decode cX5_extend 20 = .ok (.putfield 39, 3) := by decide +kernel
theorem dX5_extend_23 : decode cX5_extend 23 = .ok (.return_, 1) := by decide +kernel
theorem dX5_interest_0 : decode cX5_interest 0 = .ok (.iload_n 1, 1) := by decide +kernel
theorem dX5_interest_1 : decode cX5_interest 1 = .ok (.aload_n 0, 1) := by decide +kernel
theorem dX5_interest_2 : decode cX5_interest 2 = .ok (.getfield 27, 3) := by decide +kernel
theorem dX5_interest_5 : decode cX5_interest 5 = .ok (.isub, 1) := by decide +kernel
theorem dX5_interest_6 : decode cX5_interest 6 = .ok (.bipush 30, 2) := by decide +kernel
theorem dX5_interest_8 : decode cX5_interest 8 = .ok (.idiv, 1) := by decide +kernel
theorem dX5_interest_9 : decode cX5_interest 9 = .ok (.iconst 1, 1) := by decide +kernel
theorem dX5_interest_10 : decode cX5_interest 10 = .ok (.iadd, 1) := by decide +kernel
theorem dX5_interest_11 : decode cX5_interest 11 = .ok (.istore_n 2, 1) := by decide +kernel
theorem dX5_interest_12 : decode cX5_interest 12 = .ok (.iload_n 2, 1) := by decide +kernel
theorem dX5_interest_13 : decode cX5_interest 13 = .ok (.iconst 1, 1) := by decide +kernel
theorem dX5_interest_14 : decode cX5_interest 14 = .ok (.aload_n 0, 1) := by decide +kernel
theorem dX5_interest_15 : decode cX5_interest 15 = .ok (.getfield 24, 3) := by decide +kernel
theorem dX5_interest_18 : decode cX5_interest 18 = .ok (.iconst 5, 1) := by decide +kernel
theorem dX5_interest_19 : decode cX5_interest 19 = .ok (.imul, 1) := by decide +kernel
theorem dX5_interest_20 : decode cX5_interest 20 = .ok (.bipush 100, 2) := by decide +kernel
theorem dX5_interest_22 : decode cX5_interest 22 = .ok (.idiv, 1) := by decide +kernel
theorem dX5_interest_23 : decode cX5_interest 23 = .ok (.invokestatic 42, 3) := by decide +kernel
theorem dX5_interest_26 : decode cX5_interest 26 = .ok (.imul, 1) := by decide +kernel
theorem dX5_interest_27 : decode cX5_interest 27 = .ok (.ireturn, 1) := by decide +kernel
theorem dX5_debt_0 : decode cX5_debt 0 = .ok (.aload_n 0, 1) := by decide +kernel
theorem dX5_debt_1 : decode cX5_debt 1 = .ok (.getfield 33, 3) := by decide +kernel
theorem dX5_debt_4 : decode cX5_debt 4 = .ok (.ifCond .ne 16, 3) := by decide +kernel
theorem dX5_debt_7 : decode cX5_debt 7 = .ok (.aload_n 0, 1) := by decide +kernel
theorem dX5_debt_8 : decode cX5_debt 8 = .ok (.getfield 24, 3) := by decide +kernel
theorem dX5_debt_11 : decode cX5_debt 11 = .ok (.aload_n 0, 1) := by decide +kernel
theorem dX5_debt_12 : decode cX5_debt 12 = .ok (.iload_n 1, 1) := by decide +kernel
theorem dX5_debt_13 : decode cX5_debt 13 = .ok (.invokevirtual 48, 3) := by decide +kernel
theorem dX5_debt_16 : decode cX5_debt 16 = .ok (.iadd, 1) := by decide +kernel
theorem dX5_debt_17 : decode cX5_debt 17 = .ok (.goto 4, 3) := by decide +kernel
theorem dX5_debt_20 : decode cX5_debt 20 = .ok (.iconst 0, 1) := by decide +kernel
theorem dX5_debt_21 : decode cX5_debt 21 = .ok (.ireturn, 1) := by decide +kernel
theorem dX5_offer_0 : decode cX5_offer 0 = .ok (.aload_n 0, 1) := by decide +kernel
theorem dX5_offer_1 : decode cX5_offer 1 = .ok (.iconst 2, 1) := by decide +kernel
theorem dX5_offer_2 : decode cX5_offer 2 = .ok (.putfield 33, 3) := by decide +kernel
theorem dX5_offer_5 : decode cX5_offer 5 = .ok (.aload_n 0, 1) := by decide +kernel
theorem dX5_offer_6 : decode cX5_offer 6 = .ok (.aload_n 0, 1) := by decide +kernel
theorem dX5_offer_7 : decode cX5_offer 7 = .ok (.getfield 18, 3) := by decide +kernel
theorem dX5_offer_10 : decode cX5_offer 10 = .ok (.putfield 36, 3) := by decide +kernel
theorem dX5_offer_13 : decode cX5_offer 13 = .ok (.return_, 1) := by decide +kernel
theorem dX5_cheapen_0 : decode cX5_cheapen 0 = .ok (.aload_n 0, 1) := by decide +kernel
theorem dX5_cheapen_1 : decode cX5_cheapen 1 = .ok (.aload_n 0, 1) := by decide +kernel
theorem dX5_cheapen_2 : decode cX5_cheapen 2 = .ok (.getfield 36, 3) := by decide +kernel
theorem dX5_cheapen_5 : decode cX5_cheapen 5 = .ok (.aload_n 0, 1) := by decide +kernel
theorem dX5_cheapen_6 : decode cX5_cheapen 6 = .ok (.getfield 18, 3) := by decide +kernel
theorem dX5_cheapen_9 : decode cX5_cheapen 9 = .ok (.bipush 20, 2) := by decide +kernel
theorem dX5_cheapen_11 : decode cX5_cheapen 11 = .ok (.idiv, 1) := by decide +kernel
theorem dX5_cheapen_12 : decode cX5_cheapen 12 = .ok (.isub, 1) := by decide +kernel
theorem dX5_cheapen_13 : decode cX5_cheapen 13 = .ok (.aload_n 0, 1) := by decide +kernel
theorem dX5_cheapen_14 : decode cX5_cheapen 14 = .ok (.getfield 18, 3) := by decide +kernel
theorem dX5_cheapen_17 : decode cX5_cheapen 17 = .ok (.iconst 3, 1) := by decide +kernel
theorem dX5_cheapen_18 : decode cX5_cheapen 18 = .ok (.imul, 1) := by decide +kernel
theorem dX5_cheapen_19 : decode cX5_cheapen 19 = .ok (.bipush 10, 2) := by decide +kernel
theorem dX5_cheapen_21 : decode cX5_cheapen 21 = .ok (.idiv, 1) := by decide +kernel
theorem dX5_cheapen_22 : decode cX5_cheapen 22 = .ok (.invokestatic 42, 3) := by decide +kernel
theorem dX5_cheapen_25 : decode cX5_cheapen 25 = .ok (.putfield 36, 3) := by decide +kernel
theorem dX5_cheapen_28 : decode cX5_cheapen 28 = .ok (.return_, 1) := by decide +kernel
theorem dX5_copyFrom_0 : decode cX5_copyFrom 0 = .ok (.aload_n 0, 1) := by decide +kernel
theorem dX5_copyFrom_1 : decode cX5_copyFrom 1 = .ok (.aload_n 1, 1) := by decide +kernel
theorem dX5_copyFrom_2 : decode cX5_copyFrom 2 = .ok (.getfield 9, 3) := by decide +kernel
theorem dX5_copyFrom_5 : decode cX5_copyFrom 5 = .ok (.aload_n 1, 1) := by decide +kernel
theorem dX5_copyFrom_6 : decode cX5_copyFrom 6 = .ok (.getfield 15, 3) := by decide +kernel
theorem dX5_copyFrom_9 : decode cX5_copyFrom 9 = .ok (.aload_n 1, 1) := by decide +kernel
theorem dX5_copyFrom_10 : decode cX5_copyFrom 10 = .ok (.getfield 18, 3) := by decide +kernel
theorem dX5_copyFrom_13 : decode cX5_copyFrom 13 = .ok (.aload_n 1, 1) := by decide +kernel
theorem dX5_copyFrom_14 : decode cX5_copyFrom 14 = .ok (.getfield 21, 3) := by decide +kernel
theorem dX5_copyFrom_17 : decode cX5_copyFrom 17 = .ok (.invokevirtual 52, 3) := by decide +kernel
theorem dX5_copyFrom_20 : decode cX5_copyFrom 20 = .ok (.aload_n 0, 1) := by decide +kernel
theorem dX5_copyFrom_21 : decode cX5_copyFrom 21 = .ok (.aload_n 1, 1) := by decide +kernel
theorem dX5_copyFrom_22 : decode cX5_copyFrom 22 = .ok (.getfield 24, 3) := by decide +kernel
theorem dX5_copyFrom_25 : decode cX5_copyFrom 25 = .ok (.putfield 24, 3) := by decide +kernel
theorem dX5_copyFrom_28 : decode cX5_copyFrom 28 = .ok (.aload_n 0, 1) := by decide +kernel
theorem dX5_copyFrom_29 : decode cX5_copyFrom 29 = .ok (.aload_n 1, 1) := by decide +kernel
theorem dX5_copyFrom_30 : decode cX5_copyFrom 30 = .ok (.getfield 27, 3) := by decide +kernel
theorem dX5_copyFrom_33 : decode cX5_copyFrom 33 = .ok (.putfield 27, 3) := by decide +kernel
theorem dX5_copyFrom_36 : decode cX5_copyFrom 36 = .ok (.aload_n 0, 1) := by decide +kernel
theorem dX5_copyFrom_37 : decode cX5_copyFrom 37 = .ok (.aload_n 1, 1) := by decide +kernel
theorem dX5_copyFrom_38 : decode cX5_copyFrom 38 = .ok (.getfield 30, 3) := by decide +kernel
theorem dX5_copyFrom_41 : decode cX5_copyFrom 41 = .ok (.putfield 30, 3) := by decide +kernel
theorem dX5_copyFrom_44 : decode cX5_copyFrom 44 = .ok (.aload_n 0, 1) := by decide +kernel
theorem dX5_copyFrom_45 : decode cX5_copyFrom 45 = .ok (.aload_n 1, 1) := by decide +kernel
theorem dX5_copyFrom_46 : decode cX5_copyFrom 46 = .ok (.getfield 33, 3) := by decide +kernel
theorem dX5_copyFrom_49 : decode cX5_copyFrom 49 = .ok (.putfield 33, 3) := by decide +kernel
theorem dX5_copyFrom_52 : decode cX5_copyFrom 52 = .ok (.aload_n 0, 1) := by decide +kernel
theorem dX5_copyFrom_53 : decode cX5_copyFrom 53 = .ok (.aload_n 1, 1) := by decide +kernel
theorem dX5_copyFrom_54 : decode cX5_copyFrom 54 = .ok (.getfield 36, 3) := by decide +kernel
theorem dX5_copyFrom_57 : decode cX5_copyFrom 57 = .ok (.putfield 36, 3) := by decide +kernel
theorem dX5_copyFrom_60 : decode cX5_copyFrom 60 = .ok (.aload_n 0, 1) := by decide +kernel
theorem dX5_copyFrom_61 : decode cX5_copyFrom 61 = .ok (.aload_n 1, 1) := by decide +kernel
theorem dX5_copyFrom_62 : decode cX5_copyFrom 62 = .ok (.getfield 39, 3) := by decide +kernel
theorem dX5_copyFrom_65 : decode cX5_copyFrom 65 = .ok (.putfield 39, 3) := by decide +kernel
theorem dX5_copyFrom_68 : decode cX5_copyFrom 68 = .ok (.return_, 1) := by decide +kernel
theorem dJ9_floorMod_7cf53_0 : decode cJ9_floorMod_7cf53 0 = .ok (.iload_n 0, 1) := by decide +kernel
theorem dJ9_floorMod_7cf53_1 : decode cJ9_floorMod_7cf53 1 = .ok (.iload_n 1, 1) := by decide +kernel
theorem dJ9_floorMod_7cf53_2 : decode cJ9_floorMod_7cf53 2 = .ok (.irem, 1) := by decide +kernel
theorem dJ9_floorMod_7cf53_3 : decode cJ9_floorMod_7cf53 3 = .ok (.istore_n 2, 1) := by decide +kernel
theorem dJ9_floorMod_7cf53_4 : decode cJ9_floorMod_7cf53 4 = .ok (.iload_n 0, 1) := by decide +kernel
theorem dJ9_floorMod_7cf53_5 : decode cJ9_floorMod_7cf53 5 = .ok (.iload_n 1, 1) := by decide +kernel
theorem dJ9_floorMod_7cf53_6 : decode cJ9_floorMod_7cf53 6 = .ok (.ixor, 1) := by decide +kernel
theorem dJ9_floorMod_7cf53_7 : decode cJ9_floorMod_7cf53 7 = .ok (.ifCond .ge 11, 3) := by decide +kernel
theorem dJ9_floorMod_7cf53_10 : decode cJ9_floorMod_7cf53 10 = .ok (.iload_n 2, 1) := by decide +kernel
theorem dJ9_floorMod_7cf53_11 : decode cJ9_floorMod_7cf53 11 = .ok (.ifCond .eq 7, 3) := by decide +kernel
theorem dJ9_floorMod_7cf53_14 : decode cJ9_floorMod_7cf53 14 = .ok (.iload_n 2, 1) := by decide +kernel
theorem dJ9_floorMod_7cf53_15 : decode cJ9_floorMod_7cf53 15 = .ok (.iload_n 1, 1) := by decide +kernel
theorem dJ9_floorMod_7cf53_16 : decode cJ9_floorMod_7cf53 16 = .ok (.iadd, 1) := by decide +kernel
theorem dJ9_floorMod_7cf53_17 : decode cJ9_floorMod_7cf53 17 = .ok (.ireturn, 1) := by decide +kernel
theorem dJ9_floorMod_7cf53_18 : decode cJ9_floorMod_7cf53 18 = .ok (.iload_n 2, 1) := by decide +kernel
theorem dJ9_floorMod_7cf53_19 : decode cJ9_floorMod_7cf53 19 = .ok (.ireturn, 1) := by decide +kernel
theorem dJ9_max_7cf53_0 : decode cJ9_max_7cf53 0 = .ok (.iload_n 0, 1) := by decide +kernel
theorem dJ9_max_7cf53_1 : decode cJ9_max_7cf53 1 = .ok (.iload_n 1, 1) := by decide +kernel
theorem dJ9_max_7cf53_2 : decode cJ9_max_7cf53 2 = .ok (.if_icmp .lt 7, 3) := by decide +kernel
theorem dJ9_max_7cf53_5 : decode cJ9_max_7cf53 5 = .ok (.iload_n 0, 1) := by decide +kernel
theorem dJ9_max_7cf53_6 : decode cJ9_max_7cf53 6 = .ok (.goto 4, 3) := by decide +kernel
theorem dJ9_max_7cf53_9 : decode cJ9_max_7cf53 9 = .ok (.iload_n 1, 1) := by decide +kernel
theorem dJ9_max_7cf53_10 : decode cJ9_max_7cf53 10 = .ok (.ireturn, 1) := by decide +kernel
theorem dJ9_min_7cf53_0 : decode cJ9_min_7cf53 0 = .ok (.iload_n 0, 1) := by decide +kernel
theorem dJ9_min_7cf53_1 : decode cJ9_min_7cf53 1 = .ok (.iload_n 1, 1) := by decide +kernel
theorem dJ9_min_7cf53_2 : decode cJ9_min_7cf53 2 = .ok (.if_icmp .gt 7, 3) := by decide +kernel
theorem dJ9_min_7cf53_5 : decode cJ9_min_7cf53 5 = .ok (.iload_n 0, 1) := by decide +kernel
theorem dJ9_min_7cf53_6 : decode cJ9_min_7cf53 6 = .ok (.goto 4, 3) := by decide +kernel
theorem dJ9_min_7cf53_9 : decode cJ9_min_7cf53 9 = .ok (.iload_n 1, 1) := by decide +kernel
theorem dJ9_min_7cf53_10 : decode cJ9_min_7cf53 10 = .ok (.ireturn, 1) := by decide +kernel
