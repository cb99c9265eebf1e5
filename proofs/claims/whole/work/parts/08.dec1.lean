theorem d_BS_init_0 : decode b_BS_init 0 = .ok (.aload_n 0, 1) := by decide +kernel
theorem d_BS_init_1 : decode b_BS_init 1 = .ok (.invokespecial 3, 3) := by decide +kernel
theorem d_BS_init_4 : decode b_BS_init 4 = .ok (.aload_n 0, 1) := by decide +kernel
theorem d_BS_init_5 : decode b_BS_init 5 = .ok (.iconst 0, 1) := by decide +kernel
theorem d_BS_init_6 : decode b_BS_init 6 = .ok (.newarray .byte, 2) := by decide +kernel
theorem d_BS_init_8 : decode b_BS_init 8 = .ok (.putfield 9, 3) := by decide +kernel
theorem d_BS_init_11 : decode b_BS_init 11 = .ok (.aload_n 0, 1) := by decide +kernel
theorem d_BS_init_12 : decode b_BS_init 12 = .ok (.iconst 0, 1) := by decide +kernel
theorem d_BS_init_13 : decode b_BS_init 13 = .ok (.putfield 15, 3) := by decide +kernel
theorem d_BS_init_16 : decode b_BS_init 16 = .ok (.aload_n 0, 1) := by decide +kernel
theorem d_BS_init_17 : decode b_BS_init 17 = .ok (.iconst 0, 1) := by decide +kernel
theorem d_BS_init_18 : decode b_BS_init 18 = .ok (.putfield 19, 3) := by decide +kernel
theorem d_BS_init_21 : decode b_BS_init 21 = .ok (.aload_n 0, 1) := by decide +kernel
theorem d_BS_init_22 : decode b_BS_init 22 = .ok (.iconst 0, 1) := by decide +kernel
theorem d_BS_init_23 : decode b_BS_init 23 = .ok (.putfield 22, 3) := by decide +kernel
theorem d_BS_init_26 : decode b_BS_init 26 = .ok (.return_, 1) := by decide +kernel
theorem d_BS_startOn_0 : decode b_BS_startOn 0 = .ok (.aload_n 0, 1) := by decide +kernel
theorem d_BS_startOn_1 : decode b_BS_startOn 1 = .ok (.aload_n 1, 1) := by decide +kernel
theorem d_BS_startOn_2 : decode b_BS_startOn 2 = .ok (.putfield 9, 3) := by decide +kernel
theorem d_BS_startOn_5 : decode b_BS_startOn 5 = .ok (.aload_n 0, 1) := by decide +kernel
theorem d_BS_startOn_6 : decode b_BS_startOn 6 = .ok (.iconst 0, 1) := by decide +kernel
theorem d_BS_startOn_7 : decode b_BS_startOn 7 = .ok (.putfield 15, 3) := by decide +kernel
theorem d_BS_startOn_10 : decode b_BS_startOn 10 = .ok (.aload_n 0, 1) := by decide +kernel
theorem d_BS_startOn_11 : decode b_BS_startOn 11 = .ok (.iconst 0, 1) := by decide +kernel
theorem d_BS_startOn_12 : decode b_BS_startOn 12 = .ok (.putfield 19, 3) := by decide +kernel
theorem d_BS_startOn_15 : decode b_BS_startOn 15 = .ok (.aload_n 0, 1) := by decide +kernel
theorem d_BS_startOn_16 : decode b_BS_startOn 16 = .ok (.iconst 0, 1) := by decide +kernel
theorem d_BS_startOn_17 : decode b_BS_startOn 17 = .ok (.putfield 22, 3) := by decide +kernel
theorem d_BS_startOn_20 : decode b_BS_startOn 20 = .ok (.return_, 1) := by decide +kernel
theorem d_BS_put_0 : decode b_BS_put 0 = .ok (.aload_n 0, 1) := by decide +kernel
theorem d_BS_put_1 : decode b_BS_put 1 = .ok (.dup, 1) := by decide +kernel
theorem d_BS_put_2 : decode b_BS_put 2 = .ok (.getfield 19, 3) := by decide +kernel
theorem d_BS_put_5 : decode b_BS_put 5 = .ok (.iload_n 1, 1) := by decide +kernel
theorem d_BS_put_6 : decode b_BS_put 6 = .ok (.aload_n 0, 1) := by decide +kernel
theorem d_BS_put_7 : decode b_BS_put 7 = .ok (.getfield 22, 3) := by decide +kernel
theorem d_BS_put_10 : decode b_BS_put 10 = .ok (.ishl, 1) := by decide +kernel
theorem d_BS_put_11 : decode b_BS_put 11 = .ok (.ior, 1) := by decide +kernel
theorem d_BS_put_12 : decode b_BS_put 12 = .ok (.putfield 19, 3) := by decide +kernel
theorem d_BS_put_15 : decode b_BS_put 15 = .ok (.aload_n 0, 1) := by decide +kernel
theorem d_BS_put_16 : decode b_BS_put 16 = .ok (.dup, 1) := by decide +kernel
theorem d_BS_put_17 : decode b_BS_put 17 = .ok (.getfield 22, 3) := by decide +kernel
theorem d_BS_put_20 : decode b_BS_put 20 = .ok (.iload_n 2, 1) := by decide +kernel
theorem d_BS_put_21 : decode b_BS_put 21 = .ok (.iadd, 1) := by decide +kernel
theorem d_BS_put_22 : decode b_BS_put 22 = .ok (.putfield 22, 3) := by decide +kernel
theorem d_BS_put_25 : decode b_BS_put 25 = .ok (.aload_n 0, 1) := by decide +kernel
theorem d_BS_put_26 : decode b_BS_put 26 = .ok (.getfield 22, 3) := by decide +kernel
theorem d_BS_put_29 : decode b_BS_put 29 = .ok (.bipush 8, 2) := by decide +kernel
theorem d_BS_put_31 : decode b_BS_put 31 = .ok (.if_icmp .lt 21, 3) := by decide +kernel
theorem d_BS_put_34 : decode b_BS_put 34 = .ok (.aload_n 0, 1) := by decide +kernel
theorem d_BS_put_35 : decode b_BS_put 35 = .ok (.invokevirtual 25, 3) := by decide +kernel
theorem d_BS_put_38 : decode b_BS_put 38 = .ok (.aload_n 0, 1) := by decide +kernel
theorem d_BS_put_39 : decode b_BS_put 39 = .ok (.dup, 1) := by decide +kernel
theorem d_BS_put_40 : decode b_BS_put 40 = .ok (.getfield 22, 3) := by decide +kernel
theorem d_BS_put_43 : decode b_BS_put 43 = .ok (.bipush 8, 2) := by decide +kernel
theorem d_BS_put_45 : decode b_BS_put 45 = .ok (.isub, 1) := by decide +kernel
theorem d_BS_put_46 : decode b_BS_put 46 = .ok (.putfield 22, 3) := by decide +kernel
theorem d_BS_put_49 : decode b_BS_put 49 = .ok (.goto (-24), 3) := by decide +kernel
theorem d_BS_put_52 : decode b_BS_put 52 = .ok (.return_, 1) := by decide +kernel
theorem d_BS_finish_0 : decode b_BS_finish 0 = .ok (.aload_n 0, 1) := by decide +kernel
theorem d_BS_finish_1 : decode b_BS_finish 1 = .ok (.getfield 22, 3) := by decide +kernel
theorem d_BS_finish_4 : decode b_BS_finish 4 = .ok (.ifCond .le 12, 3) := by decide +kernel
theorem d_BS_finish_7 : decode b_BS_finish 7 = .ok (.aload_n 0, 1) := by decide +kernel
theorem d_BS_finish_8 : decode b_BS_finish 8 = .ok (.invokevirtual 25, 3) := by decide +kernel
theorem d_BS_finish_11 : decode b_BS_finish 11 = .ok (.aload_n 0, 1) := by decide +kernel
theorem d_BS_finish_12 : decode b_BS_finish 12 = .ok (.iconst 0, 1) := by decide +kernel
theorem d_BS_finish_13 : decode b_BS_finish 13 = .ok (.putfield 22, 3) := by decide +kernel
theorem d_BS_finish_16 : decode b_BS_finish 16 = .ok (.aload_n 0, 1) := by decide +kernel
theorem d_BS_finish_17 : decode b_BS_finish 17 = .ok (.getfield 15, 3) := by decide +kernel
theorem d_BS_finish_20 : decode b_BS_finish 20 = .ok (.ireturn, 1) := by decide +kernel
theorem d_BS_putByte_0 : decode b_BS_putByte 0 = .ok (.aload_n 0, 1) := by decide +kernel
theorem d_BS_putByte_1 : decode b_BS_putByte 1 = .ok (.getfield 15, 3) := by decide +kernel
theorem d_BS_putByte_4 : decode b_BS_putByte 4 = .ok (.sipush 16384, 3) := by decide +kernel
theorem d_BS_putByte_7 : decode b_BS_putByte 7 = .ok (.if_icmp .lt 13, 3) := by decide +kernel
theorem d_BS_putByte_10 : decode b_BS_putByte 10 = .ok (.new 28, 3) := by decide +kernel
theorem d_BS_putByte_13 : decode b_BS_putByte 13 = .ok (.dup, 1) := by decide +kernel
theorem d_BS_putByte_14 : decode b_BS_putByte 14 = .ok (.ldc 30, 2) := by decide +kernel
theorem d_BS_putByte_16 : decode b_BS_putByte 16 = .ok (.invokespecial 32, 3) := by decide +kernel
theorem d_BS_putByte_19 : decode b_BS_putByte 19 = .ok (.athrow, 1) := by decide +kernel
theorem d_BS_putByte_20 : decode b_BS_putByte 20 = .ok (.aload_n 0, 1) := by decide +kernel
theorem d_BS_putByte_21 : decode b_BS_putByte 21 = .ok (.getfield 9, 3) := by decide +kernel
theorem d_BS_putByte_24 : decode b_BS_putByte 24 = .ok (.aload_n 0, 1) := by decide +kernel
theorem d_BS_putByte_25 : decode b_BS_putByte 25 = .ok (.getfield 15, 3) := by decide +kernel
theorem d_BS_putByte_28 : decode b_BS_putByte 28 = .ok (.aload_n 0, 1) := by decide +kernel
theorem d_BS_putByte_29 : decode b_BS_putByte 29 = .ok (.getfield 19, 3) := by decide +kernel
theorem d_BS_putByte_32 : decode b_BS_putByte 32 = .ok (.i2b, 1) := by decide +kernel
theorem d_BS_putByte_33 : decode b_BS_putByte 33 = .ok (.bastore, 1) := by decide +kernel
theorem d_BS_putByte_34 : decode b_BS_putByte 34 = .ok (.aload_n 0, 1) := by decide +kernel
theorem d_BS_putByte_35 : decode b_BS_putByte 35 = .ok (.dup, 1) := by decide +kernel
theorem d_BS_putByte_36 : decode b_BS_putByte 36 = .ok (.getfield 15, 3) := by decide +kernel
theorem d_BS_putByte_39 : decode b_BS_putByte 39 = .ok (.iconst 1, 1) := by decide +kernel
theorem d_BS_putByte_40 : decode b_BS_putByte 40 = .ok (.iadd, 1) := by decide +kernel
theorem d_BS_putByte_41 : decode b_BS_putByte 41 = .ok (.putfield 15, 3) := by decide +kernel
theorem d_BS_putByte_44 : decode b_BS_putByte 44 = .ok (.aload_n 0, 1) := by decide +kernel
theorem d_BS_putByte_45 : decode b_BS_putByte 45 = .ok (.dup, 1) := by decide +kernel
theorem d_BS_putByte_46 : decode b_BS_putByte 46 = .ok (.getfield 19, 3) := by decide +kernel
theorem d_BS_putByte_49 : decode b_BS_putByte 49 = .ok (.bipush 8, 2) := by decide +kernel
theorem d_BS_putByte_51 : decode b_BS_putByte 51 = .ok (.iushr, 1) := by decide +kernel
theorem d_BS_putByte_52 : decode b_BS_putByte 52 = .ok (.putfield 19, 3) := by decide +kernel
theorem d_BS_putByte_55 : decode b_BS_putByte 55 = .ok (.return_, 1) := by decide +kernel
theorem d_NU_init_0 : decode b_NU_init 0 = .ok (.aload_n 0, 1) := by decide +kernel
theorem d_NU_init_1 : decode b_NU_init 1 = .ok (.invokespecial 3, 3) := by decide +kernel
theorem d_NU_init_4 : decode b_NU_init 4 = .ok (.return_, 1) := by decide +kernel
theorem d_NU_startWith_0 : decode b_NU_startWith 0 = .ok (.aload_n 0, 1) := by decide +kernel
theorem d_NU_startWith_1 : decode b_NU_startWith 1 = .ok (.iload_n 1, 1) := by decide +kernel
theorem d_NU_startWith_2 : decode b_NU_startWith 2 = .ok (.putfield 9, 3) := by decide +kernel
theorem d_NU_startWith_5 : decode b_NU_startWith 5 = .ok (.aload_n 0, 1) := by decide +kernel
theorem d_NU_startWith_6 : decode b_NU_startWith 6 = .ok (.invokevirtual 15, 3) := by decide +kernel
theorem d_NU_startWith_9 : decode b_NU_startWith 9 = .ok (.return_, 1) := by decide +kernel
theorem d_NU_beginAnew_0 : decode b_NU_beginAnew 0 = .ok (.aload_n 0, 1) := by decide +kernel
theorem d_NU_beginAnew_1 : decode b_NU_beginAnew 1 = .ok (.aload_n 0, 1) := by decide +kernel
theorem d_NU_beginAnew_2 : decode b_NU_beginAnew 2 = .ok (.getfield 9, 3) := by decide +kernel
theorem d_NU_beginAnew_5 : decode b_NU_beginAnew 5 = .ok (.iconst 1, 1) := by decide +kernel
theorem d_NU_beginAnew_6 : decode b_NU_beginAnew 6 = .ok (.iadd, 1) := by decide +kernel
theorem d_NU_beginAnew_7 : decode b_NU_beginAnew 7 = .ok (.putfield 18, 3) := by decide +kernel
theorem d_NU_beginAnew_10 : decode b_NU_beginAnew 10 = .ok (.aload_n 0, 1) := by decide +kernel
theorem d_NU_beginAnew_11 : decode b_NU_beginAnew 11 = .ok (.iconst 1, 1) := by decide +kernel
theorem d_NU_beginAnew_12 : decode b_NU_beginAnew 12 = .ok (.aload_n 0, 1) := by decide +kernel
theorem d_NU_beginAnew_13 : decode b_NU_beginAnew 13 = .ok (.getfield 9, 3) := by decide +kernel
theorem d_NU_beginAnew_16 : decode b_NU_beginAnew 16 = .ok (.ishl, 1) := by decide +kernel
theorem d_NU_beginAnew_17 : decode b_NU_beginAnew 17 = .ok (.iconst 2, 1) := by decide +kernel
theorem d_NU_beginAnew_18 : decode b_NU_beginAnew 18 = .ok (.iadd, 1) := by decide +kernel
theorem d_NU_beginAnew_19 : decode b_NU_beginAnew 19 = .ok (.putfield 21, 3) := by decide +kernel
theorem d_NU_beginAnew_22 : decode b_NU_beginAnew 22 = .ok (.aload_n 0, 1) := by decide +kernel
theorem d_NU_beginAnew_23 : decode b_NU_beginAnew 23 = .ok (.iconst 1, 1) := by decide +kernel
theorem d_NU_beginAnew_24 : decode b_NU_beginAnew 24 = .ok (.putfield 24, 3) := by decide +kernel
theorem d_NU_beginAnew_27 : decode b_NU_beginAnew 27 = .ok (.return_, 1) := by decide +kernel
theorem d_NU_beginning_0 : decode b_NU_beginning 0 = .ok (.iconst 1, 1) := by decide +kernel
theorem d_NU_beginning_1 : decode b_NU_beginning 1 = .ok (.aload_n 0, 1) := by decide +kernel
theorem d_NU_beginning_2 : decode b_NU_beginning 2 = .ok (.getfield 9, 3) := by decide +kernel
theorem d_NU_beginning_5 : decode b_NU_beginning 5 = .ok (.ishl, 1) := by decide +kernel
theorem d_NU_beginning_6 : decode b_NU_beginning 6 = .ok (.ireturn, 1) := by decide +kernel
theorem d_NU_ending_0 : decode b_NU_ending 0 = .ok (.iconst 1, 1) := by decide +kernel
theorem d_NU_ending_1 : decode b_NU_ending 1 = .ok (.aload_n 0, 1) := by decide +kernel
theorem d_NU_ending_2 : decode b_NU_ending 2 = .ok (.getfield 9, 3) := by decide +kernel
theorem d_NU_ending_5 : decode b_NU_ending 5 = .ok (.ishl, 1) := by decide +kernel
theorem d_NU_ending_6 : decode b_NU_ending 6 = .ok (.iconst 1, 1) := by decide +kernel
theorem d_NU_ending_7 : decode b_NU_ending 7 = .ok (.iadd, 1) := by decide +kernel
theorem d_NU_ending_8 : decode b_NU_ending 8 = .ok (.ireturn, 1) := by decide +kernel
theorem d_NU_isIndex_0 : decode b_NU_isIndex 0 = .ok (.iload_n 1, 1) := by decide +kernel
theorem d_NU_isIndex_1 : decode b_NU_isIndex 1 = .ok (.iconst 1, 1) := by decide +kernel
theorem d_NU_isIndex_2 : decode b_NU_isIndex 2 = .ok (.aload_n 0, 1) := by decide +kernel
theorem d_NU_isIndex_3 : decode b_NU_isIndex 3 = .ok (.getfield 9, 3) := by decide +kernel
theorem d_NU_isIndex_6 : decode b_NU_isIndex 6 = .ok (.ishl, 1) := by decide +kernel
theorem d_NU_isIndex_7 : decode b_NU_isIndex 7 = .ok (.if_icmp .ge 7, 3) := by decide +kernel
theorem d_NU_isIndex_10 : decode b_NU_isIndex 10 = .ok (.iconst 1, 1) := by decide +kernel
theorem d_NU_isIndex_11 : decode b_NU_isIndex 11 = .ok (.goto 4, 3) := by decide +kernel
theorem d_NU_isIndex_14 : decode b_NU_isIndex 14 = .ok (.iconst 0, 1) := by decide +kernel
theorem d_NU_isIndex_15 : decode b_NU_isIndex 15 = .ok (.ireturn, 1) := by decide +kernel
theorem d_NU_isFull_0 : decode b_NU_isFull 0 = .ok (.aload_n 0, 1) := by decide +kernel
theorem d_NU_isFull_1 : decode b_NU_isFull 1 = .ok (.getfield 21, 3) := by decide +kernel
theorem d_NU_isFull_4 : decode b_NU_isFull 4 = .ok (.sipush 4096, 3) := by decide +kernel
theorem d_NU_isFull_7 : decode b_NU_isFull 7 = .ok (.if_icmp .lt 7, 3) := by decide +kernel
theorem d_NU_isFull_10 : decode b_NU_isFull 10 = .ok (.iconst 1, 1) := by decide +kernel
theorem d_NU_isFull_11 : decode b_NU_isFull 11 = .ok (.goto 4, 3) := by decide +kernel
theorem d_NU_isFull_14 : decode b_NU_isFull 14 = .ok (.iconst 0, 1) := by decide +kernel
theorem d_NU_isFull_15 : decode b_NU_isFull 15 = .ok (.ireturn, 1) := by decide +kernel
theorem d_NU_nextCodeMakesRow_0 : decode b_NU_nextCodeMakesRow 0 = .ok (.aload_n 0, 1) := by decide +kernel
theorem d_NU_nextCodeMakesRow_1 : decode b_NU_nextCodeMakesRow 1 = .ok (.getfield 24, 3) := by decide +kernel
theorem d_NU_nextCodeMakesRow_4 : decode b_NU_nextCodeMakesRow 4 = .ok (.ifCond .ne 14, 3) := by decide +kernel
theorem d_NU_nextCodeMakesRow_7 : decode b_NU_nextCodeMakesRow 7 = .ok (.aload_n 0, 1) := by decide +kernel
theorem d_NU_nextCodeMakesRow_8 : decode b_NU_nextCodeMakesRow 8 = .ok (.invokevirtual 28, 3) := by decide +kernel
theorem d_NU_nextCodeMakesRow_11 : decode b_NU_nextCodeMakesRow 11 = .ok (.ifCond .ne 7, 3) := by decide +kernel
theorem d_NU_nextCodeMakesRow_14 : decode b_NU_nextCodeMakesRow 14 = .ok (.iconst 1, 1) := by decide +kernel
theorem d_NU_nextCodeMakesRow_15 : decode b_NU_nextCodeMakesRow 15 = .ok (.goto 4, 3) := by decide +kernel
theorem d_NU_nextCodeMakesRow_18 : decode b_NU_nextCodeMakesRow 18 = .ok (.iconst 0, 1) := by decide +kernel
theorem d_NU_nextCodeMakesRow_19 : decode b_NU_nextCodeMakesRow 19 = .ok (.ireturn, 1) := by decide +kernel
theorem d_NU_passCode_0 : decode b_NU_passCode 0 = .ok (.aload_n 0, 1) := by decide +kernel
theorem d_NU_passCode_1 : decode b_NU_passCode 1 = .ok (.invokevirtual 32, 3) := by decide +kernel
theorem d_NU_passCode_4 : decode b_NU_passCode 4 = .ok (.ifCond .eq 45, 3) := by decide +kernel
theorem d_NU_passCode_7 : decode b_NU_passCode 7 = .ok (.aload_n 0, 1) := by decide +kernel
theorem d_NU_passCode_8 : decode b_NU_passCode 8 = .ok (.dup, 1) := by decide +kernel
theorem d_NU_passCode_9 : decode b_NU_passCode 9 = .ok (.getfield 21, 3) := by decide +kernel
theorem d_NU_passCode_12 : decode b_NU_passCode 12 = .ok (.iconst 1, 1) := by decide +kernel
theorem d_NU_passCode_13 : decode b_NU_passCode 13 = .ok (.iadd, 1) := by decide +kernel
theorem d_NU_passCode_14 : decode b_NU_passCode 14 = .ok (.putfield 21, 3) := by decide +kernel
theorem d_NU_passCode_17 : decode b_NU_passCode 17 = .ok (.aload_n 0, 1) := by decide +kernel
theorem d_NU_passCode_18 : decode b_NU_passCode 18 = .ok (.getfield 21, 3) := by decide +kernel
theorem d_NU_passCode_21 : decode b_NU_passCode 21 = .ok (.iconst 1, 1) := by decide +kernel
theorem d_NU_passCode_22 : decode b_NU_passCode 22 = .ok (.aload_n 0, 1) := by decide +kernel
theorem d_NU_passCode_23 : decode b_NU_passCode 23 = .ok (.getfield 18, 3) := by decide +kernel
theorem d_NU_passCode_26 : decode b_NU_passCode 26 = .ok (.ishl, 1) := by decide +kernel
theorem d_NU_passCode_27 : decode b_NU_passCode 27 = .ok (.if_icmp .ne 22, 3) := by decide +kernel
theorem d_NU_passCode_30 : decode b_NU_passCode 30 = .ok (.aload_n 0, 1) := by decide +kernel
theorem d_NU_passCode_31 : decode b_NU_passCode 31 = .ok (.getfield 18, 3) := by decide +kernel
theorem d_NU_passCode_34 : decode b_NU_passCode 34 = .ok (.bipush 12, 2) := by decide +kernel
theorem d_NU_passCode_36 : decode b_NU_passCode 36 = .ok (.if_icmp .ge 13, 3) := by decide +kernel
theorem d_NU_passCode_39 : decode b_NU_passCode 39 = .ok (.aload_n 0, 1) := by decide +kernel
theorem d_NU_passCode_40 : decode b_NU_passCode 40 = .ok (.dup, 1) := by decide +kernel
theorem d_NU_passCode_41 : decode b_NU_passCode 41 = .ok (.getfield 18, 3) := by decide +kernel
theorem d_NU_passCode_44 : decode b_NU_passCode 44 = .ok (.iconst 1, 1) := by decide +kernel
theorem d_NU_passCode_45 : decode b_NU_passCode 45 = .ok (.iadd, 1) := by decide +kernel
theorem d_NU_passCode_46 : decode b_NU_passCode 46 = .ok (.putfield 18, 3) := by decide +kernel
theorem d_NU_passCode_49 : decode b_NU_passCode 49 = .ok (.aload_n 0, 1) := by decide +kernel
theorem d_NU_passCode_50 : decode b_NU_passCode 50 = .ok (.iconst 0, 1) := by decide +kernel
theorem d_NU_passCode_51 : decode b_NU_passCode 51 = .ok (.putfield 24, 3) := by decide +kernel
theorem d_NU_passCode_54 : decode b_NU_passCode 54 = .ok (.return_, 1) := by decide +kernel
theorem d_PK_init_0 : decode b_PK_init 0 = .ok (.aload_n 0, 1) := by decide +kernel
theorem d_PK_init_1 : decode b_PK_init 1 = .ok (.invokespecial 3, 3) := by decide +kernel
theorem d_PK_init_4 : decode b_PK_init 4 = .ok (.aload_n 0, 1) := by decide +kernel
theorem d_PK_init_5 : decode b_PK_init 5 = .ok (.new 9, 3) := by decide +kernel
theorem d_PK_init_8 : decode b_PK_init 8 = .ok (.dup, 1) := by decide +kernel
theorem d_PK_init_9 : decode b_PK_init 9 = .ok (.invokespecial 11, 3) := by decide +kernel
theorem d_PK_init_12 : decode b_PK_init 12 = .ok (.putfield 12, 3) := by decide +kernel
theorem d_PK_init_15 : decode b_PK_init 15 = .ok (.aload_n 0, 1) := by decide +kernel
theorem d_PK_init_16 : decode b_PK_init 16 = .ok (.new 18, 3) := by decide +kernel
theorem d_PK_init_19 : decode b_PK_init 19 = .ok (.dup, 1) := by decide +kernel
theorem d_PK_init_20 : decode b_PK_init 20 = .ok (.invokespecial 20, 3) := by decide +kernel
theorem d_PK_init_23 : decode b_PK_init 23 = .ok (.putfield 21, 3) := by decide +kernel
theorem d_PK_init_26 : decode b_PK_init 26 = .ok (.aload_n 0, 1) := by decide +kernel
theorem d_PK_init_27 : decode b_PK_init 27 = .ok (.sipush 4096, 3) := by decide +kernel
theorem d_PK_init_30 : decode b_PK_init 30 = .ok (.newarray .int, 2) := by decide +kernel
theorem d_PK_init_32 : decode b_PK_init 32 = .ok (.putfield 25, 3) := by decide +kernel
theorem d_PK_init_35 : decode b_PK_init 35 = .ok (.aload_n 0, 1) := by decide +kernel
theorem d_PK_init_36 : decode b_PK_init 36 = .ok (.sipush 4096, 3) := by decide +kernel
theorem d_PK_init_39 : decode b_PK_init 39 = .ok (.newarray .int, 2) := by decide +kernel
theorem d_PK_init_41 : decode b_PK_init 41 = .ok (.putfield 29, 3) := by decide +kernel
theorem d_PK_init_44 : decode b_PK_init 44 = .ok (.aload_n 0, 1) := by decide +kernel
theorem d_PK_init_45 : decode b_PK_init 45 = .ok (.sipush 4096, 3) := by decide +kernel
theorem d_PK_init_48 : decode b_PK_init 48 = .ok (.newarray .int, 2) := by decide +kernel
theorem d_PK_init_50 : decode b_PK_init 50 = .ok (.putfield 32, 3) := by decide +kernel
theorem d_PK_init_53 : decode b_PK_init 53 = .ok (.return_, 1) := by decide +kernel
theorem d_PK_write_0 : decode b_PK_write 0 = .ok (.aload_n 0, 1) := by decide +kernel
theorem d_PK_write_1 : decode b_PK_write 1 = .ok (.getfield 12, 3) := by decide +kernel
theorem d_PK_write_4 : decode b_PK_write 4 = .ok (.iload_n 3, 1) := by decide +kernel
theorem d_PK_write_5 : decode b_PK_write 5 = .ok (.invokevirtual 35, 3) := by decide +kernel
theorem d_PK_write_8 : decode b_PK_write 8 = .ok (.aload_n 0, 1) := by decide +kernel
theorem d_PK_write_9 : decode b_PK_write 9 = .ok (.getfield 21, 3) := by decide +kernel
theorem d_PK_write_12 : decode b_PK_write 12 = .ok (.aload 4, 2) := by decide +kernel
theorem d_PK_write_14 : decode b_PK_write 14 = .ok (.invokevirtual 39, 3) := by decide +kernel
theorem d_PK_write_17 : decode b_PK_write 17 = .ok (.aload_n 0, 1) := by decide +kernel
theorem d_PK_write_18 : decode b_PK_write 18 = .ok (.invokevirtual 43, 3) := by decide +kernel
theorem d_PK_write_21 : decode b_PK_write 21 = .ok (.aload_n 1, 1) := by decide +kernel
theorem d_PK_write_22 : decode b_PK_write 22 = .ok (.iconst 0, 1) := by decide +kernel
theorem d_PK_write_23 : decode b_PK_write 23 = .ok (.baload, 1) := by decide +kernel
theorem d_PK_write_24 : decode b_PK_write 24 = .ok (.sipush 255, 3) := by decide +kernel
theorem d_PK_write_27 : decode b_PK_write 27 = .ok (.iand, 1) := by decide +kernel
theorem d_PK_write_28 : decode b_PK_write 28 = .ok (.istore 5, 2) := by decide +kernel
theorem d_PK_write_30 : decode b_PK_write 30 = .ok (.iconst 1, 1) := by decide +kernel
theorem d_PK_write_31 : decode b_PK_write 31 = .ok (.istore 6, 2) := by decide +kernel
theorem d_PK_write_33 : decode b_PK_write 33 = .ok (.iload 6, 2) := by decide +kernel
theorem d_PK_write_35 : decode b_PK_write 35 = .ok (.iload_n 2, 1) := by decide +kernel
theorem d_PK_write_36 : decode b_PK_write 36 = .ok (.if_icmp .ge 56, 3) := by decide +kernel
theorem d_PK_write_39 : decode b_PK_write 39 = .ok (.aload_n 1, 1) := by decide +kernel
theorem d_PK_write_40 : decode b_PK_write 40 = .ok (.iload 6, 2) := by decide +kernel
theorem d_PK_write_42 : decode b_PK_write 42 = .ok (.baload, 1) := by decide +kernel
theorem d_PK_write_43 : decode b_PK_write 43 = .ok (.sipush 255, 3) := by decide +kernel
theorem d_PK_write_46 : decode b_PK_write 46 = .ok (.iand, 1) := by decide +kernel
theorem d_PK_write_47 : decode b_PK_write 47 = .ok (.istore 7, 2) := by decide +kernel
theorem d_PK_write_49 : decode b_PK_write 49 = .ok (.aload_n 0, 1) := by decide +kernel
theorem d_PK_write_50 : decode b_PK_write 50 = .ok (.iload 5, 2) := by decide +kernel
theorem d_PK_write_52 : decode b_PK_write 52 = .ok (.iload 7, 2) := by decide +kernel
theorem d_PK_write_54 : decode b_PK_write 54 = .ok (.invokevirtual 46, 3) := by decide +kernel
theorem d_PK_write_57 : decode b_PK_write 57 = .ok (.istore 8, 2) := by decide +kernel
theorem d_PK_write_59 : decode b_PK_write 59 = .ok (.iload 8, 2) := by decide +kernel
theorem d_PK_write_61 : decode b_PK_write 61 = .ok (.ifCond .ne 21, 3) := by decide +kernel
theorem d_PK_write_64 : decode b_PK_write 64 = .ok (.aload_n 0, 1) := by decide +kernel
theorem d_PK_write_65 : decode b_PK_write 65 = .ok (.iload 5, 2) := by decide +kernel
theorem d_PK_write_67 : decode b_PK_write 67 = .ok (.invokevirtual 50, 3) := by decide +kernel
theorem d_PK_write_70 : decode b_PK_write 70 = .ok (.aload_n 0, 1) := by decide +kernel
theorem d_PK_write_71 : decode b_PK_write 71 = .ok (.iload 5, 2) := by decide +kernel
theorem d_PK_write_73 : decode b_PK_write 73 = .ok (.iload 7, 2) := by decide +kernel
theorem d_PK_write_75 : decode b_PK_write 75 = .ok (.invokevirtual 53, 3) := by decide +kernel
theorem d_PK_write_78 : decode b_PK_write 78 = .ok (.iload 7, 2) := by decide +kernel
theorem d_PK_write_80 : decode b_PK_write 80 = .ok (.istore 8, 2) := by decide +kernel
theorem d_PK_write_82 : decode b_PK_write 82 = .ok (.iload 8, 2) := by decide +kernel
theorem d_PK_write_84 : decode b_PK_write 84 = .ok (.istore 5, 2) := by decide +kernel
theorem d_PK_write_86 : decode b_PK_write 86 = .ok (.iinc 6 1, 3) := by decide +kernel
theorem d_PK_write_89 : decode b_PK_write 89 = .ok (.goto (-56), 3) := by decide +kernel
theorem d_PK_write_92 : decode b_PK_write 92 = .ok (.aload_n 0, 1) := by decide +kernel
theorem d_PK_write_93 : decode b_PK_write 93 = .ok (.iload 5, 2) := by decide +kernel
theorem d_PK_write_95 : decode b_PK_write 95 = .ok (.invokevirtual 50, 3) := by decide +kernel
theorem d_PK_write_98 : decode b_PK_write 98 = .ok (.aload_n 0, 1) := by decide +kernel
theorem d_PK_write_99 : decode b_PK_write 99 = .ok (.getfield 21, 3) := by decide +kernel
theorem d_PK_write_102 : decode b_PK_write 102 = .ok (.aload_n 0, 1) := by decide +kernel
theorem d_PK_write_103 : decode b_PK_write 103 = .ok (.getfield 12, 3) := by decide +kernel
theorem d_PK_write_106 : decode b_PK_write 106 = .ok (.invokevirtual 57, 3) := by decide +kernel
theorem d_PK_write_109 : decode b_PK_write 109 = .ok (.aload_n 0, 1) := by decide +kernel
theorem d_PK_write_110 : decode b_PK_write 110 = .ok (.getfield 12, 3) := by decide +kernel
theorem d_PK_write_113 : decode b_PK_write 113 = .ok (.getfield 61, 3) := by decide +kernel
theorem d_PK_write_116 : decode b_PK_write 116 = .ok (.invokevirtual 65, 3) := by decide +kernel
theorem d_PK_write_119 : decode b_PK_write 119 = .ok (.aload_n 0, 1) := by decide +kernel
theorem d_PK_write_120 : decode b_PK_write 120 = .ok (.getfield 21, 3) := by decide +kernel
theorem d_PK_write_123 : decode b_PK_write 123 = .ok (.invokevirtual 68, 3) := by decide +kernel
theorem d_PK_write_126 : decode b_PK_write 126 = .ok (.ireturn, 1) := by decide +kernel
theorem d_PK_writeBeginning_0 : decode b_PK_writeBeginning 0 = .ok (.aload_n 0, 1) := by decide +kernel
theorem d_PK_writeBeginning_1 : decode b_PK_writeBeginning 1 = .ok (.getfield 21, 3) := by decide +kernel
theorem d_PK_writeBeginning_4 : decode b_PK_writeBeginning 4 = .ok (.aload_n 0, 1) := by decide +kernel
theorem d_PK_writeBeginning_5 : decode b_PK_writeBeginning 5 = .ok (.getfield 12, 3) := by decide +kernel
theorem d_PK_writeBeginning_8 : decode b_PK_writeBeginning 8 = .ok (.invokevirtual 71, 3) := by decide +kernel
theorem d_PK_writeBeginning_11 : decode b_PK_writeBeginning 11 = .ok (.aload_n 0, 1) := by decide +kernel
theorem d_PK_writeBeginning_12 : decode b_PK_writeBeginning 12 = .ok (.getfield 12, 3) := by decide +kernel
theorem d_PK_writeBeginning_15 : decode b_PK_writeBeginning 15 = .ok (.getfield 61, 3) := by decide +kernel
theorem d_PK_writeBeginning_18 : decode b_PK_writeBeginning 18 = .ok (.invokevirtual 65, 3) := by decide +kernel
theorem d_PK_writeBeginning_21 : decode b_PK_writeBeginning 21 = .ok (.aload_n 0, 1) := by decide +kernel
theorem d_PK_writeBeginning_22 : decode b_PK_writeBeginning 22 = .ok (.getfield 12, 3) := by decide +kernel
theorem d_PK_writeBeginning_25 : decode b_PK_writeBeginning 25 = .ok (.invokevirtual 74, 3) := by decide +kernel
theorem d_PK_writeBeginning_28 : decode b_PK_writeBeginning 28 = .ok (.aload_n 0, 1) := by decide +kernel
theorem d_PK_writeBeginning_29 : decode b_PK_writeBeginning 29 = .ok (.getfield 25, 3) := by decide +kernel
theorem d_PK_writeBeginning_32 : decode b_PK_writeBeginning 32 = .ok (.iconst 0, 1) := by decide +kernel
theorem d_PK_writeBeginning_33 : decode b_PK_writeBeginning 33 = .ok (.aload_n 0, 1) := by decide +kernel
theorem d_PK_writeBeginning_34 : decode b_PK_writeBeginning 34 = .ok (.getfield 12, 3) := by decide +kernel
theorem d_PK_writeBeginning_37 : decode b_PK_writeBeginning 37 = .ok (.invokevirtual 71, 3) := by decide +kernel
theorem d_PK_writeBeginning_40 : decode b_PK_writeBeginning 40 = .ok (.iconst 0, 1) := by decide +kernel
theorem d_PK_writeBeginning_41 : decode b_PK_writeBeginning 41 = .ok (.invokestatic 77, 3) := by decide +kernel
theorem d_PK_writeBeginning_44 : decode b_PK_writeBeginning 44 = .ok (.return_, 1) := by decide +kernel
theorem d_PK_writeRow_0 : decode b_PK_writeRow 0 = .ok (.aload_n 0, 1) := by decide +kernel
theorem d_PK_writeRow_1 : decode b_PK_writeRow 1 = .ok (.getfield 21, 3) := by decide +kernel
theorem d_PK_writeRow_4 : decode b_PK_writeRow 4 = .ok (.iload_n 1, 1) := by decide +kernel
theorem d_PK_writeRow_5 : decode b_PK_writeRow 5 = .ok (.aload_n 0, 1) := by decide +kernel
theorem d_PK_writeRow_6 : decode b_PK_writeRow 6 = .ok (.getfield 12, 3) := by decide +kernel
theorem d_PK_writeRow_9 : decode b_PK_writeRow 9 = .ok (.getfield 61, 3) := by decide +kernel
theorem d_PK_writeRow_12 : decode b_PK_writeRow 12 = .ok (.invokevirtual 65, 3) := by decide +kernel
theorem d_PK_writeRow_15 : decode b_PK_writeRow 15 = .ok (.aload_n 0, 1) := by decide +kernel
theorem d_PK_writeRow_16 : decode b_PK_writeRow 16 = .ok (.getfield 12, 3) := by decide +kernel
theorem d_PK_writeRow_19 : decode b_PK_writeRow 19 = .ok (.invokevirtual 83, 3) := by decide +kernel
theorem d_PK_writeRow_22 : decode b_PK_writeRow 22 = .ok (.aload_n 0, 1) := by decide +kernel
theorem d_PK_writeRow_23 : decode b_PK_writeRow 23 = .ok (.getfield 12, 3) := by decide +kernel
theorem d_PK_writeRow_26 : decode b_PK_writeRow 26 = .ok (.invokevirtual 86, 3) := by decide +kernel
theorem d_PK_writeRow_29 : decode b_PK_writeRow 29 = .ok (.ifCond .eq 7, 3) := by decide +kernel
theorem d_PK_writeRow_32 : decode b_PK_writeRow 32 = .ok (.aload_n 0, 1) := by decide +kernel
theorem d_PK_writeRow_33 : decode b_PK_writeRow 33 = .ok (.invokevirtual 43, 3) := by decide +kernel
theorem d_PK_writeRow_36 : decode b_PK_writeRow 36 = .ok (.return_, 1) := by decide +kernel
theorem d_PK_childOf_0 : decode b_PK_childOf 0 = .ok (.aload_n 0, 1) := by decide +kernel
theorem d_PK_childOf_1 : decode b_PK_childOf 1 = .ok (.getfield 25, 3) := by decide +kernel
theorem d_PK_childOf_4 : decode b_PK_childOf 4 = .ok (.iload_n 1, 1) := by decide +kernel
theorem d_PK_childOf_5 : decode b_PK_childOf 5 = .ok (.iaload, 1) := by decide +kernel
theorem d_PK_childOf_6 : decode b_PK_childOf 6 = .ok (.istore_n 3, 1) := by decide +kernel
theorem d_PK_childOf_7 : decode b_PK_childOf 7 = .ok (.iconst 0, 1) := by decide +kernel
theorem d_PK_childOf_8 : decode b_PK_childOf 8 = .ok (.istore 4, 2) := by decide +kernel
theorem d_PK_childOf_10 : decode b_PK_childOf 10 = .ok (.iload 4, 2) := by decide +kernel
theorem d_PK_childOf_12 : decode b_PK_childOf 12 = .ok (.sipush 4096, 3) := by decide +kernel
theorem d_PK_childOf_15 : decode b_PK_childOf 15 = .ok (.if_icmp .ge 32, 3) := by decide +kernel
theorem d_PK_childOf_18 : decode b_PK_childOf 18 = .ok (.iload_n 3, 1) := by decide +kernel
theorem d_PK_childOf_19 : decode b_PK_childOf 19 = .ok (.ifCond .eq 28, 3) := by decide +kernel
theorem d_PK_childOf_22 : decode b_PK_childOf 22 = .ok (.aload_n 0, 1) := by decide +kernel
theorem d_PK_childOf_23 : decode b_PK_childOf 23 = .ok (.getfield 32, 3) := by decide +kernel
theorem d_PK_childOf_26 : decode b_PK_childOf 26 = .ok (.iload_n 3, 1) := by decide +kernel
theorem d_PK_childOf_27 : decode b_PK_childOf 27 = .ok (.iaload, 1) := by decide +kernel
theorem d_PK_childOf_28 : decode b_PK_childOf 28 = .ok (.iload_n 2, 1) := by decide +kernel
theorem d_PK_childOf_29 : decode b_PK_childOf 29 = .ok (.if_icmp .ne 5, 3) := by decide +kernel
theorem d_PK_childOf_32 : decode b_PK_childOf 32 = .ok (.iload_n 3, 1) := by decide +kernel
theorem d_PK_childOf_33 : decode b_PK_childOf 33 = .ok (.ireturn, 1) := by decide +kernel
theorem d_PK_childOf_34 : decode b_PK_childOf 34 = .ok (.aload_n 0, 1) := by decide +kernel
theorem d_PK_childOf_35 : decode b_PK_childOf 35 = .ok (.getfield 29, 3) := by decide +kernel
theorem d_PK_childOf_38 : decode b_PK_childOf 38 = .ok (.iload_n 3, 1) := by decide +kernel
theorem d_PK_childOf_39 : decode b_PK_childOf 39 = .ok (.iaload, 1) := by decide +kernel
theorem d_PK_childOf_40 : decode b_PK_childOf 40 = .ok (.istore_n 3, 1) := by decide +kernel
theorem d_PK_childOf_41 : decode b_PK_childOf 41 = .ok (.iinc 4 1, 3) := by decide +kernel
theorem d_PK_childOf_44 : decode b_PK_childOf 44 = .ok (.goto (-34), 3) := by decide +kernel
theorem d_PK_childOf_47 : decode b_PK_childOf 47 = .ok (.iconst 0, 1) := by decide +kernel
theorem d_PK_childOf_48 : decode b_PK_childOf 48 = .ok (.ireturn, 1) := by decide +kernel
theorem d_PK_addChild_0 : decode b_PK_addChild 0 = .ok (.aload_n 0, 1) := by decide +kernel
theorem d_PK_addChild_1 : decode b_PK_addChild 1 = .ok (.getfield 12, 3) := by decide +kernel
theorem d_PK_addChild_4 : decode b_PK_addChild 4 = .ok (.invokevirtual 90, 3) := by decide +kernel
theorem d_PK_addChild_7 : decode b_PK_addChild 7 = .ok (.ifCond .ne 4, 3) := by decide +kernel
theorem d_PK_addChild_10 : decode b_PK_addChild 10 = .ok (.return_, 1) := by decide +kernel
theorem d_PK_addChild_11 : decode b_PK_addChild 11 = .ok (.aload_n 0, 1) := by decide +kernel
theorem d_PK_addChild_12 : decode b_PK_addChild 12 = .ok (.getfield 12, 3) := by decide +kernel
theorem d_PK_addChild_15 : decode b_PK_addChild 15 = .ok (.getfield 93, 3) := by decide +kernel
theorem d_PK_addChild_18 : decode b_PK_addChild 18 = .ok (.istore_n 3, 1) := by decide +kernel
theorem d_PK_addChild_19 : decode b_PK_addChild 19 = .ok (.aload_n 0, 1) := by decide +kernel
theorem d_PK_addChild_20 : decode b_PK_addChild 20 = .ok (.getfield 32, 3) := by decide +kernel
theorem d_PK_addChild_23 : decode b_PK_addChild 23 = .ok (.iload_n 3, 1) := by decide +kernel
theorem d_PK_addChild_24 : decode b_PK_addChild 24 = .ok (.iload_n 2, 1) := by decide +kernel
theorem d_PK_addChild_25 : decode b_PK_addChild 25 = .ok (.iastore, 1) := by decide +kernel
theorem d_PK_addChild_26 : decode b_PK_addChild 26 = .ok (.aload_n 0, 1) := by decide +kernel
theorem d_PK_addChild_27 : decode b_PK_addChild 27 = .ok (.getfield 25, 3) := by decide +kernel
theorem d_PK_addChild_30 : decode b_PK_addChild 30 = .ok (.iload_n 3, 1) := by decide +kernel
theorem d_PK_addChild_31 : decode b_PK_addChild 31 = .ok (.iconst 0, 1) := by decide +kernel
theorem d_PK_addChild_32 : decode b_PK_addChild 32 = .ok (.iastore, 1) := by decide +kernel
theorem d_PK_addChild_33 : decode b_PK_addChild 33 = .ok (.aload_n 0, 1) := by decide +kernel
theorem d_PK_addChild_34 : decode b_PK_addChild 34 = .ok (.getfield 29, 3) := by decide +kernel
theorem d_PK_addChild_37 : decode b_PK_addChild 37 = .ok (.iload_n 3, 1) := by decide +kernel
theorem d_PK_addChild_38 : decode b_PK_addChild 38 = .ok (.aload_n 0, 1) := by decide +kernel
theorem d_PK_addChild_39 : decode b_PK_addChild 39 = .ok (.getfield 25, 3) := by decide +kernel
theorem d_PK_addChild_42 : decode b_PK_addChild 42 = .ok (.iload_n 1, 1) := by decide +kernel
theorem d_PK_addChild_43 : decode b_PK_addChild 43 = .ok (.iaload, 1) := by decide +kernel
theorem d_PK_addChild_44 : decode b_PK_addChild 44 = .ok (.iastore, 1) := by decide +kernel
theorem d_PK_addChild_45 : decode b_PK_addChild 45 = .ok (.aload_n 0, 1) := by decide +kernel
theorem d_PK_addChild_46 : decode b_PK_addChild 46 = .ok (.getfield 25, 3) := by decide +kernel
theorem d_PK_addChild_49 : decode b_PK_addChild 49 = .ok (.iload_n 1, 1) := by decide +kernel
theorem d_PK_addChild_50 : decode b_PK_addChild 50 = .ok (.iload_n 3, 1) := by decide +kernel
theorem d_PK_addChild_51 : decode b_PK_addChild 51 = .ok (.iastore, 1) := by decide +kernel
theorem d_PK_addChild_52 : decode b_PK_addChild 52 = .ok (.return_, 1) := by decide +kernel
theorem d_UN_init_0 : decode b_UN_init 0 = .ok (.aload_n 0, 1) := by decide +kernel
theorem d_UN_init_1 : decode b_UN_init 1 = .ok (.invokespecial 3, 3) := by decide +kernel
theorem d_UN_init_4 : decode b_UN_init 4 = .ok (.aload_n 0, 1) := by decide +kernel
theorem d_UN_init_5 : decode b_UN_init 5 = .ok (.new 9, 3) := by decide +kernel
theorem d_UN_init_8 : decode b_UN_init 8 = .ok (.dup, 1) := by decide +kernel
theorem d_UN_init_9 : decode b_UN_init 9 = .ok (.invokespecial 11, 3) := by decide +kernel
theorem d_UN_init_12 : decode b_UN_init 12 = .ok (.putfield 12, 3) := by decide +kernel
theorem d_UN_init_15 : decode b_UN_init 15 = .ok (.aload_n 0, 1) := by decide +kernel
theorem d_UN_init_16 : decode b_UN_init 16 = .ok (.sipush 4096, 3) := by decide +kernel
theorem d_UN_init_19 : decode b_UN_init 19 = .ok (.newarray .int, 2) := by decide +kernel
theorem d_UN_init_21 : decode b_UN_init 21 = .ok (.putfield 18, 3) := by decide +kernel
theorem d_UN_init_24 : decode b_UN_init 24 = .ok (.aload_n 0, 1) := by decide +kernel
theorem d_UN_init_25 : decode b_UN_init 25 = .ok (.sipush 4096, 3) := by decide +kernel
theorem d_UN_init_28 : decode b_UN_init 28 = .ok (.newarray .int, 2) := by decide +kernel
theorem d_UN_init_30 : decode b_UN_init 30 = .ok (.putfield 22, 3) := by decide +kernel
theorem d_UN_init_33 : decode b_UN_init 33 = .ok (.aload_n 0, 1) := by decide +kernel
theorem d_UN_init_34 : decode b_UN_init 34 = .ok (.iconst 0, 1) := by decide +kernel
theorem d_UN_init_35 : decode b_UN_init 35 = .ok (.newarray .byte, 2) := by decide +kernel
theorem d_UN_init_37 : decode b_UN_init 37 = .ok (.putfield 25, 3) := by decide +kernel
theorem d_UN_init_40 : decode b_UN_init 40 = .ok (.aload_n 0, 1) := by decide +kernel
theorem d_UN_init_41 : decode b_UN_init 41 = .ok (.iconst 0, 1) := by decide +kernel
theorem d_UN_init_42 : decode b_UN_init 42 = .ok (.putfield 29, 3) := by decide +kernel
theorem d_UN_init_45 : decode b_UN_init 45 = .ok (.aload_n 0, 1) := by decide +kernel
theorem d_UN_init_46 : decode b_UN_init 46 = .ok (.iconst 0, 1) := by decide +kernel
theorem d_UN_init_47 : decode b_UN_init 47 = .ok (.putfield 33, 3) := by decide +kernel
theorem d_UN_init_50 : decode b_UN_init 50 = .ok (.aload_n 0, 1) := by decide +kernel
theorem d_UN_init_51 : decode b_UN_init 51 = .ok (.iconst 0, 1) := by decide +kernel
theorem d_UN_init_52 : decode b_UN_init 52 = .ok (.putfield 36, 3) := by decide +kernel
theorem d_UN_init_55 : decode b_UN_init 55 = .ok (.return_, 1) := by decide +kernel
theorem d_UN_read_0 : decode b_UN_read 0 = .ok (.aload_n 0, 1) := by decide +kernel
theorem d_UN_read_1 : decode b_UN_read 1 = .ok (.getfield 12, 3) := by decide +kernel
theorem d_UN_read_4 : decode b_UN_read 4 = .ok (.iload_n 3, 1) := by decide +kernel
theorem d_UN_read_5 : decode b_UN_read 5 = .ok (.invokevirtual 39, 3) := by decide +kernel
theorem d_UN_read_8 : decode b_UN_read 8 = .ok (.aload_n 0, 1) := by decide +kernel
theorem d_UN_read_9 : decode b_UN_read 9 = .ok (.aload 4, 2) := by decide +kernel
theorem d_UN_read_11 : decode b_UN_read 11 = .ok (.putfield 25, 3) := by decide +kernel
theorem d_UN_read_14 : decode b_UN_read 14 = .ok (.aload_n 0, 1) := by decide +kernel
theorem d_UN_read_15 : decode b_UN_read 15 = .ok (.iconst 0, 1) := by decide +kernel
theorem d_UN_read_16 : decode b_UN_read 16 = .ok (.putfield 29, 3) := by decide +kernel
theorem d_UN_read_19 : decode b_UN_read 19 = .ok (.bipush 8, 2) := by decide +kernel
theorem d_UN_read_21 : decode b_UN_read 21 = .ok (.iload_n 2, 1) := by decide +kernel
theorem d_UN_read_22 : decode b_UN_read 22 = .ok (.imul, 1) := by decide +kernel
theorem d_UN_read_23 : decode b_UN_read 23 = .ok (.istore 5, 2) := by decide +kernel
theorem d_UN_read_25 : decode b_UN_read 25 = .ok (.iconst 0, 1) := by decide +kernel
theorem d_UN_read_26 : decode b_UN_read 26 = .ok (.istore 6, 2) := by decide +kernel
theorem d_UN_read_28 : decode b_UN_read 28 = .ok (.iconst 0, 1) := by decide +kernel
theorem d_UN_read_29 : decode b_UN_read 29 = .ok (.istore 7, 2) := by decide +kernel
theorem d_UN_read_31 : decode b_UN_read 31 = .ok (.iload 7, 2) := by decide +kernel
theorem d_UN_read_33 : decode b_UN_read 33 = .ok (.iload 5, 2) := by decide +kernel
theorem d_UN_read_35 : decode b_UN_read 35 = .ok (.if_icmp .ge 97, 3) := by decide +kernel
theorem d_UN_read_38 : decode b_UN_read 38 = .ok (.iload 6, 2) := by decide +kernel
theorem d_UN_read_40 : decode b_UN_read 40 = .ok (.aload_n 0, 1) := by decide +kernel
theorem d_UN_read_41 : decode b_UN_read 41 = .ok (.getfield 12, 3) := by decide +kernel
theorem d_UN_read_44 : decode b_UN_read 44 = .ok (.getfield 43, 3) := by decide +kernel
theorem d_UN_read_47 : decode b_UN_read 47 = .ok (.iadd, 1) := by decide +kernel
theorem d_UN_read_48 : decode b_UN_read 48 = .ok (.iload 5, 2) := by decide +kernel
theorem d_UN_read_50 : decode b_UN_read 50 = .ok (.if_icmp .gt 82, 3) := by decide +kernel
theorem d_UN_read_53 : decode b_UN_read 53 = .ok (.aload_n 1, 1) := by decide +kernel
theorem d_UN_read_54 : decode b_UN_read 54 = .ok (.iload_n 2, 1) := by decide +kernel
theorem d_UN_read_55 : decode b_UN_read 55 = .ok (.iload 6, 2) := by decide +kernel
theorem d_UN_read_57 : decode b_UN_read 57 = .ok (.aload_n 0, 1) := by decide +kernel
theorem d_UN_read_58 : decode b_UN_read 58 = .ok (.getfield 12, 3) := by decide +kernel
theorem d_UN_read_61 : decode b_UN_read 61 = .ok (.getfield 43, 3) := by decide +kernel
theorem d_UN_read_64 : decode b_UN_read 64 = .ok (.invokestatic 46, 3) := by decide +kernel
theorem d_UN_read_67 : decode b_UN_read 67 = .ok (.istore 8, 2) := by decide +kernel
theorem d_UN_read_69 : decode b_UN_read 69 = .ok (.iload 6, 2) := by decide +kernel
theorem d_UN_read_71 : decode b_UN_read 71 = .ok (.aload_n 0, 1) := by decide +kernel
theorem d_UN_read_72 : decode b_UN_read 72 = .ok (.getfield 12, 3) := by decide +kernel
theorem d_UN_read_75 : decode b_UN_read 75 = .ok (.getfield 43, 3) := by decide +kernel
theorem d_UN_read_78 : decode b_UN_read 78 = .ok (.iadd, 1) := by decide +kernel
theorem d_UN_read_79 : decode b_UN_read 79 = .ok (.istore 6, 2) := by decide +kernel
theorem d_UN_read_81 : decode b_UN_read 81 = .ok (.iload 8, 2) := by decide +kernel
theorem d_UN_read_83 : decode b_UN_read 83 = .ok (.aload_n 0, 1) := by decide +kernel
theorem d_UN_read_84 : decode b_UN_read 84 = .ok (.getfield 12, 3) := by decide +kernel
theorem d_UN_read_87 : decode b_UN_read 87 = .ok (.invokevirtual 50, 3) := by decide +kernel
theorem d_UN_read_90 : decode b_UN_read 90 = .ok (.if_icmp .ne 8, 3) := by decide +kernel
theorem d_UN_read_93 : decode b_UN_read 93 = .ok (.aload_n 0, 1) := by decide +kernel
theorem d_UN_read_94 : decode b_UN_read 94 = .ok (.getfield 29, 3) := by decide +kernel
theorem d_UN_read_97 : decode b_UN_read 97 = .ok (.ireturn, 1) := by decide +kernel
theorem d_UN_read_98 : decode b_UN_read 98 = .ok (.iload 8, 2) := by decide +kernel
theorem d_UN_read_100 : decode b_UN_read 100 = .ok (.aload_n 0, 1) := by decide +kernel
theorem d_UN_read_101 : decode b_UN_read 101 = .ok (.getfield 12, 3) := by decide +kernel
theorem d_UN_read_104 : decode b_UN_read 104 = .ok (.invokevirtual 54, 3) := by decide +kernel
theorem d_UN_read_107 : decode b_UN_read 107 = .ok (.if_icmp .ne 13, 3) := by decide +kernel
theorem d_UN_read_110 : decode b_UN_read 110 = .ok (.aload_n 0, 1) := by decide +kernel
theorem d_UN_read_111 : decode b_UN_read 111 = .ok (.getfield 12, 3) := by decide +kernel
theorem d_UN_read_114 : decode b_UN_read 114 = .ok (.invokevirtual 57, 3) := by decide +kernel
theorem d_UN_read_117 : decode b_UN_read 117 = .ok (.goto 9, 3) := by decide +kernel
theorem d_UN_read_120 : decode b_UN_read 120 = .ok (.aload_n 0, 1) := by decide +kernel
theorem d_UN_read_121 : decode b_UN_read 121 = .ok (.iload 8, 2) := by decide +kernel
theorem d_UN_read_123 : decode b_UN_read 123 = .ok (.invokevirtual 60, 3) := by decide +kernel
theorem d_UN_read_126 : decode b_UN_read 126 = .ok (.iinc 7 1, 3) := by decide +kernel
theorem d_UN_read_129 : decode b_UN_read 129 = .ok (.goto (-98), 3) := by decide +kernel
theorem d_UN_read_132 : decode b_UN_read 132 = .ok (.new 63, 3) := by decide +kernel
theorem d_UN_read_135 : decode b_UN_read 135 = .ok (.dup, 1) := by decide +kernel
theorem d_UN_read_136 : decode b_UN_read 136 = .ok (.ldc 65, 2) := by decide +kernel
theorem d_UN_read_138 : decode b_UN_read 138 = .ok (.invokespecial 67, 3) := by decide +kernel
theorem d_UN_read_141 : decode b_UN_read 141 = .ok (.athrow, 1) := by decide +kernel
theorem d_UN_codeAt_0 : decode b_UN_codeAt 0 = .ok (.iconst 0, 1) := by decide +kernel
theorem d_UN_codeAt_1 : decode b_UN_codeAt 1 = .ok (.istore 4, 2) := by decide +kernel
theorem d_UN_codeAt_3 : decode b_UN_codeAt 3 = .ok (.iload_n 2, 1) := by decide +kernel
theorem d_UN_codeAt_4 : decode b_UN_codeAt 4 = .ok (.iconst 3, 1) := by decide +kernel
theorem d_UN_codeAt_5 : decode b_UN_codeAt 5 = .ok (.ishr, 1) := by decide +kernel
theorem d_UN_codeAt_6 : decode b_UN_codeAt 6 = .ok (.istore 5, 2) := by decide +kernel
theorem d_UN_codeAt_8 : decode b_UN_codeAt 8 = .ok (.iconst 0, 1) := by decide +kernel
theorem d_UN_codeAt_9 : decode b_UN_codeAt 9 = .ok (.istore 6, 2) := by decide +kernel
theorem d_UN_codeAt_11 : decode b_UN_codeAt 11 = .ok (.iload 6, 2) := by decide +kernel
theorem d_UN_codeAt_13 : decode b_UN_codeAt 13 = .ok (.iconst 3, 1) := by decide +kernel
theorem d_UN_codeAt_14 : decode b_UN_codeAt 14 = .ok (.if_icmp .ge 40, 3) := by decide +kernel
theorem d_UN_codeAt_17 : decode b_UN_codeAt 17 = .ok (.iload 5, 2) := by decide +kernel
theorem d_UN_codeAt_19 : decode b_UN_codeAt 19 = .ok (.iload 6, 2) := by decide +kernel
theorem d_UN_codeAt_21 : decode b_UN_codeAt 21 = .ok (.iadd, 1) := by decide +kernel
theorem d_UN_codeAt_22 : decode b_UN_codeAt 22 = .ok (.iload_n 1, 1) := by decide +kernel
theorem d_UN_codeAt_23 : decode b_UN_codeAt 23 = .ok (.if_icmp .ge 31, 3) := by decide +kernel
theorem d_UN_codeAt_26 : decode b_UN_codeAt 26 = .ok (.iload 4, 2) := by decide +kernel
theorem d_UN_codeAt_28 : decode b_UN_codeAt 28 = .ok (.aload_n 0, 1) := by decide +kernel
theorem d_UN_codeAt_29 : decode b_UN_codeAt 29 = .ok (.iload 5, 2) := by decide +kernel
theorem d_UN_codeAt_31 : decode b_UN_codeAt 31 = .ok (.iload 6, 2) := by decide +kernel
theorem d_UN_codeAt_33 : decode b_UN_codeAt 33 = .ok (.iadd, 1) := by decide +kernel
theorem d_UN_codeAt_34 : decode b_UN_codeAt 34 = .ok (.baload, 1) := by decide +kernel
theorem d_UN_codeAt_35 : decode b_UN_codeAt 35 = .ok (.sipush 255, 3) := by decide +kernel
theorem d_UN_codeAt_38 : decode b_UN_codeAt 38 = .ok (.iand, 1) := by decide +kernel
theorem d_UN_codeAt_39 : decode b_UN_codeAt 39 = .ok (.bipush 8, 2) := by decide +kernel
theorem d_UN_codeAt_41 : decode b_UN_codeAt 41 = .ok (.iload 6, 2) := by decide +kernel
theorem d_UN_codeAt_43 : decode b_UN_codeAt 43 = .ok (.imul, 1) := by decide +kernel
theorem d_UN_codeAt_44 : decode b_UN_codeAt 44 = .ok (.ishl, 1) := by decide +kernel
theorem d_UN_codeAt_45 : decode b_UN_codeAt 45 = .ok (.ior, 1) := by decide +kernel
theorem d_UN_codeAt_46 : decode b_UN_codeAt 46 = .ok (.istore 4, 2) := by decide +kernel
theorem d_UN_codeAt_48 : decode b_UN_codeAt 48 = .ok (.iinc 6 1, 3) := by decide +kernel
theorem d_UN_codeAt_51 : decode b_UN_codeAt 51 = .ok (.goto (-40), 3) := by decide +kernel
theorem d_UN_codeAt_54 : decode b_UN_codeAt 54 = .ok (.iload 4, 2) := by decide +kernel
theorem d_UN_codeAt_56 : decode b_UN_codeAt 56 = .ok (.iload_n 2, 1) := by decide +kernel
theorem d_UN_codeAt_57 : decode b_UN_codeAt 57 = .ok (.bipush 7, 2) := by decide +kernel
theorem d_UN_codeAt_59 : decode b_UN_codeAt 59 = .ok (.iand, 1) := by decide +kernel
theorem d_UN_codeAt_60 : decode b_UN_codeAt 60 = .ok (.ishr, 1) := by decide +kernel
theorem d_UN_codeAt_61 : decode b_UN_codeAt 61 = .ok (.iconst 1, 1) := by decide +kernel
theorem d_UN_codeAt_62 : decode b_UN_codeAt 62 = .ok (.iload_n 3, 1) := by decide +kernel
theorem d_UN_codeAt_63 : decode b_UN_codeAt 63 = .ok (.ishl, 1) := by decide +kernel
theorem d_UN_codeAt_64 : decode b_UN_codeAt 64 = .ok (.iconst 1, 1) := by decide +kernel
theorem d_UN_codeAt_65 : decode b_UN_codeAt 65 = .ok (.isub, 1) := by decide +kernel
theorem d_UN_codeAt_66 : decode b_UN_codeAt 66 = .ok (.iand, 1) := by decide +kernel
theorem d_UN_codeAt_67 : decode b_UN_codeAt 67 = .ok (.ireturn, 1) := by decide +kernel
theorem d_UN_takeCode_0 : decode b_UN_takeCode 0 = .ok (.aload_n 0, 1) := by decide +kernel
theorem d_UN_takeCode_1 : decode b_UN_takeCode 1 = .ok (.getfield 12, 3) := by decide +kernel
theorem d_UN_takeCode_4 : decode b_UN_takeCode 4 = .ok (.getfield 70, 3) := by decide +kernel
theorem d_UN_takeCode_7 : decode b_UN_takeCode 7 = .ok (.istore_n 2, 1) := by decide +kernel
theorem d_UN_takeCode_8 : decode b_UN_takeCode 8 = .ok (.aload_n 0, 1) := by decide +kernel
theorem d_UN_takeCode_9 : decode b_UN_takeCode 9 = .ok (.getfield 12, 3) := by decide +kernel
theorem d_UN_takeCode_12 : decode b_UN_takeCode 12 = .ok (.invokevirtual 73, 3) := by decide +kernel
theorem d_UN_takeCode_15 : decode b_UN_takeCode 15 = .ok (.ifCond .eq 28, 3) := by decide +kernel
theorem d_UN_takeCode_18 : decode b_UN_takeCode 18 = .ok (.aload_n 0, 1) := by decide +kernel
theorem d_UN_takeCode_19 : decode b_UN_takeCode 19 = .ok (.getfield 18, 3) := by decide +kernel
theorem d_UN_takeCode_22 : decode b_UN_takeCode 22 = .ok (.iload_n 2, 1) := by decide +kernel
theorem d_UN_takeCode_23 : decode b_UN_takeCode 23 = .ok (.aload_n 0, 1) := by decide +kernel
theorem d_UN_takeCode_24 : decode b_UN_takeCode 24 = .ok (.getfield 33, 3) := by decide +kernel
theorem d_UN_takeCode_27 : decode b_UN_takeCode 27 = .ok (.iastore, 1) := by decide +kernel
theorem d_UN_takeCode_28 : decode b_UN_takeCode 28 = .ok (.aload_n 0, 1) := by decide +kernel
theorem d_UN_takeCode_29 : decode b_UN_takeCode 29 = .ok (.getfield 22, 3) := by decide +kernel
theorem d_UN_takeCode_32 : decode b_UN_takeCode 32 = .ok (.iload_n 2, 1) := by decide +kernel
theorem d_UN_takeCode_33 : decode b_UN_takeCode 33 = .ok (.aload_n 0, 1) := by decide +kernel
theorem d_UN_takeCode_34 : decode b_UN_takeCode 34 = .ok (.getfield 36, 3) := by decide +kernel
theorem d_UN_takeCode_37 : decode b_UN_takeCode 37 = .ok (.iconst 1, 1) := by decide +kernel
theorem d_UN_takeCode_38 : decode b_UN_takeCode 38 = .ok (.iadd, 1) := by decide +kernel
theorem d_UN_takeCode_39 : decode b_UN_takeCode 39 = .ok (.iastore, 1) := by decide +kernel
theorem d_UN_takeCode_40 : decode b_UN_takeCode 40 = .ok (.iinc 2 1, 3) := by decide +kernel
theorem d_UN_takeCode_43 : decode b_UN_takeCode 43 = .ok (.iload_n 1, 1) := by decide +kernel
theorem d_UN_takeCode_44 : decode b_UN_takeCode 44 = .ok (.iload_n 2, 1) := by decide +kernel
theorem d_UN_takeCode_45 : decode b_UN_takeCode 45 = .ok (.if_icmp .lt 13, 3) := by decide +kernel
theorem d_UN_takeCode_48 : decode b_UN_takeCode 48 = .ok (.new 63, 3) := by decide +kernel
theorem d_UN_takeCode_51 : decode b_UN_takeCode 51 = .ok (.dup, 1) := by decide +kernel
theorem d_UN_takeCode_52 : decode b_UN_takeCode 52 = .ok (.ldc 77, 2) := by decide +kernel
theorem d_UN_takeCode_54 : decode b_UN_takeCode 54 = .ok (.invokespecial 67, 3) := by decide +kernel
theorem d_UN_takeCode_57 : decode b_UN_takeCode 57 = .ok (.athrow, 1) := by decide +kernel
theorem d_UN_takeCode_58 : decode b_UN_takeCode 58 = .ok (.aload_n 0, 1) := by decide +kernel
theorem d_UN_takeCode_59 : decode b_UN_takeCode 59 = .ok (.getfield 12, 3) := by decide +kernel
theorem d_UN_takeCode_62 : decode b_UN_takeCode 62 = .ok (.iload_n 1, 1) := by decide +kernel
theorem d_UN_takeCode_63 : decode b_UN_takeCode 63 = .ok (.invokevirtual 79, 3) := by decide +kernel
theorem d_UN_takeCode_66 : decode b_UN_takeCode 66 = .ok (.istore_n 3, 1) := by decide +kernel
theorem d_UN_takeCode_67 : decode b_UN_takeCode 67 = .ok (.iload_n 3, 1) := by decide +kernel
theorem d_UN_takeCode_68 : decode b_UN_takeCode 68 = .ok (.ifCond .eq 7, 3) := by decide +kernel
theorem d_UN_takeCode_71 : decode b_UN_takeCode 71 = .ok (.iconst 1, 1) := by decide +kernel
theorem d_UN_takeCode_72 : decode b_UN_takeCode 72 = .ok (.goto 9, 3) := by decide +kernel
theorem d_UN_takeCode_75 : decode b_UN_takeCode 75 = .ok (.aload_n 0, 1) := by decide +kernel
theorem d_UN_takeCode_76 : decode b_UN_takeCode 76 = .ok (.getfield 22, 3) := by decide +kernel
theorem d_UN_takeCode_79 : decode b_UN_takeCode 79 = .ok (.iload_n 1, 1) := by decide +kernel
theorem d_UN_takeCode_80 : decode b_UN_takeCode 80 = .ok (.iaload, 1) := by decide +kernel
theorem d_UN_takeCode_81 : decode b_UN_takeCode 81 = .ok (.istore 4, 2) := by decide +kernel
theorem d_UN_takeCode_83 : decode b_UN_takeCode 83 = .ok (.iload 4, 2) := by decide +kernel
theorem d_UN_takeCode_85 : decode b_UN_takeCode 85 = .ok (.sipush 16384, 3) := by decide +kernel
theorem d_UN_takeCode_88 : decode b_UN_takeCode 88 = .ok (.aload_n 0, 1) := by decide +kernel
theorem d_UN_takeCode_89 : decode b_UN_takeCode 89 = .ok (.getfield 29, 3) := by decide +kernel
theorem d_UN_takeCode_92 : decode b_UN_takeCode 92 = .ok (.isub, 1) := by decide +kernel
theorem d_UN_takeCode_93 : decode b_UN_takeCode 93 = .ok (.if_icmp .le 13, 3) := by decide +kernel
theorem d_UN_takeCode_96 : decode b_UN_takeCode 96 = .ok (.new 83, 3) := by decide +kernel
theorem d_UN_takeCode_99 : decode b_UN_takeCode 99 = .ok (.dup, 1) := by decide +kernel
theorem d_UN_takeCode_100 : decode b_UN_takeCode 100 = .ok (.ldc 85, 2) := by decide +kernel
theorem d_UN_takeCode_102 : decode b_UN_takeCode 102 = .ok (.invokespecial 87, 3) := by decide +kernel
theorem d_UN_takeCode_105 : decode b_UN_takeCode 105 = .ok (.athrow, 1) := by decide +kernel
theorem d_UN_takeCode_106 : decode b_UN_takeCode 106 = .ok (.iload_n 3, 1) := by decide +kernel
theorem d_UN_takeCode_107 : decode b_UN_takeCode 107 = .ok (.ifCond .eq 17, 3) := by decide +kernel
theorem d_UN_takeCode_110 : decode b_UN_takeCode 110 = .ok (.aload_n 0, 1) := by decide +kernel
theorem d_UN_takeCode_111 : decode b_UN_takeCode 111 = .ok (.getfield 25, 3) := by decide +kernel
theorem d_UN_takeCode_114 : decode b_UN_takeCode 114 = .ok (.aload_n 0, 1) := by decide +kernel
theorem d_UN_takeCode_115 : decode b_UN_takeCode 115 = .ok (.getfield 29, 3) := by decide +kernel
theorem d_UN_takeCode_118 : decode b_UN_takeCode 118 = .ok (.iload_n 1, 1) := by decide +kernel
theorem d_UN_takeCode_119 : decode b_UN_takeCode 119 = .ok (.i2b, 1) := by decide +kernel
theorem d_UN_takeCode_120 : decode b_UN_takeCode 120 = .ok (.bastore, 1) := by decide +kernel
theorem d_UN_takeCode_121 : decode b_UN_takeCode 121 = .ok (.goto 15, 3) := by decide +kernel
theorem d_UN_takeCode_124 : decode b_UN_takeCode 124 = .ok (.aload_n 0, 1) := by decide +kernel
theorem d_UN_takeCode_125 : decode b_UN_takeCode 125 = .ok (.aload_n 0, 1) := by decide +kernel
theorem d_UN_takeCode_126 : decode b_UN_takeCode 126 = .ok (.getfield 18, 3) := by decide +kernel
theorem d_UN_takeCode_129 : decode b_UN_takeCode 129 = .ok (.iload_n 1, 1) := by decide +kernel
theorem d_UN_takeCode_130 : decode b_UN_takeCode 130 = .ok (.iaload, 1) := by decide +kernel
theorem d_UN_takeCode_131 : decode b_UN_takeCode 131 = .ok (.iload 4, 2) := by decide +kernel
theorem d_UN_takeCode_133 : decode b_UN_takeCode 133 = .ok (.invokevirtual 88, 3) := by decide +kernel
theorem d_UN_takeCode_136 : decode b_UN_takeCode 136 = .ok (.aload_n 0, 1) := by decide +kernel
theorem d_UN_takeCode_137 : decode b_UN_takeCode 137 = .ok (.aload_n 0, 1) := by decide +kernel
theorem d_UN_takeCode_138 : decode b_UN_takeCode 138 = .ok (.getfield 29, 3) := by decide +kernel
theorem d_UN_takeCode_141 : decode b_UN_takeCode 141 = .ok (.putfield 33, 3) := by decide +kernel
theorem d_UN_takeCode_144 : decode b_UN_takeCode 144 = .ok (.aload_n 0, 1) := by decide +kernel
theorem d_UN_takeCode_145 : decode b_UN_takeCode 145 = .ok (.iload 4, 2) := by decide +kernel
theorem d_UN_takeCode_147 : decode b_UN_takeCode 147 = .ok (.putfield 36, 3) := by decide +kernel
theorem d_UN_takeCode_150 : decode b_UN_takeCode 150 = .ok (.aload_n 0, 1) := by decide +kernel
theorem d_UN_takeCode_151 : decode b_UN_takeCode 151 = .ok (.dup, 1) := by decide +kernel
theorem d_UN_takeCode_152 : decode b_UN_takeCode 152 = .ok (.getfield 29, 3) := by decide +kernel
theorem d_UN_takeCode_155 : decode b_UN_takeCode 155 = .ok (.iload 4, 2) := by decide +kernel
theorem d_UN_takeCode_157 : decode b_UN_takeCode 157 = .ok (.iadd, 1) := by decide +kernel
theorem d_UN_takeCode_158 : decode b_UN_takeCode 158 = .ok (.putfield 29, 3) := by decide +kernel
theorem d_UN_takeCode_161 : decode b_UN_takeCode 161 = .ok (.aload_n 0, 1) := by decide +kernel
theorem d_UN_takeCode_162 : decode b_UN_takeCode 162 = .ok (.getfield 12, 3) := by decide +kernel
theorem d_UN_takeCode_165 : decode b_UN_takeCode 165 = .ok (.invokevirtual 92, 3) := by decide +kernel
theorem d_UN_takeCode_168 : decode b_UN_takeCode 168 = .ok (.return_, 1) := by decide +kernel
theorem d_UN_repeat_0 : decode b_UN_repeat 0 = .ok (.iconst 0, 1) := by decide +kernel
theorem d_UN_repeat_1 : decode b_UN_repeat 1 = .ok (.istore_n 3, 1) := by decide +kernel
theorem d_UN_repeat_2 : decode b_UN_repeat 2 = .ok (.iload_n 3, 1) := by decide +kernel
theorem d_UN_repeat_3 : decode b_UN_repeat 3 = .ok (.iload_n 2, 1) := by decide +kernel
theorem d_UN_repeat_4 : decode b_UN_repeat 4 = .ok (.if_icmp .ge 28, 3) := by decide +kernel
theorem d_UN_repeat_7 : decode b_UN_repeat 7 = .ok (.aload_n 0, 1) := by decide +kernel
theorem d_UN_repeat_8 : decode b_UN_repeat 8 = .ok (.getfield 25, 3) := by decide +kernel
theorem d_UN_repeat_11 : decode b_UN_repeat 11 = .ok (.aload_n 0, 1) := by decide +kernel
theorem d_UN_repeat_12 : decode b_UN_repeat 12 = .ok (.getfield 29, 3) := by decide +kernel
theorem d_UN_repeat_15 : decode b_UN_repeat 15 = .ok (.iload_n 3, 1) := by decide +kernel
theorem d_UN_repeat_16 : decode b_UN_repeat 16 = .ok (.iadd, 1) := by decide +kernel
theorem d_UN_repeat_17 : decode b_UN_repeat 17 = .ok (.aload_n 0, 1) := by decide +kernel
theorem d_UN_repeat_18 : decode b_UN_repeat 18 = .ok (.getfield 25, 3) := by decide +kernel
theorem d_UN_repeat_21 : decode b_UN_repeat 21 = .ok (.iload_n 1, 1) := by decide +kernel
theorem d_UN_repeat_22 : decode b_UN_repeat 22 = .ok (.iload_n 3, 1) := by decide +kernel
theorem d_UN_repeat_23 : decode b_UN_repeat 23 = .ok (.iadd, 1) := by decide +kernel
theorem d_UN_repeat_24 : decode b_UN_repeat 24 = .ok (.baload, 1) := by decide +kernel
theorem d_UN_repeat_25 : decode b_UN_repeat 25 = .ok (.bastore, 1) := by decide +kernel
theorem d_UN_repeat_26 : decode b_UN_repeat 26 = .ok (.iinc 3 1, 3) := by decide +kernel
theorem d_UN_repeat_29 : decode b_UN_repeat 29 = .ok (.goto (-27), 3) := by decide +kernel
theorem d_UN_repeat_32 : decode b_UN_repeat 32 = .ok (.return_, 1) := by decide +kernel
