theorem d_MO_init_0 : decode b_MO_init 0 = .ok (.aload_n 0, 1) := by decide +kernel
theorem d_MO_init_1 : decode b_MO_init 1 = .ok (.invokespecial 1, 3) := by decide +kernel
theorem d_MO_init_4 : decode b_MO_init 4 = .ok (.aload_n 0, 1) := by decide +kernel
theorem d_MO_init_5 : decode b_MO_init 5 = .ok (.sipush 16384, 3) := by decide +kernel
theorem d_MO_init_8 : decode b_MO_init 8 = .ok (.newarray .byte, 2) := by decide +kernel
theorem d_MO_init_10 : decode b_MO_init 10 = .ok (.putfield 7, 3) := by decide +kernel
theorem d_MO_init_13 : decode b_MO_init 13 = .ok (.aload_n 0, 1) := by decide +kernel
theorem d_MO_init_14 : decode b_MO_init 14 = .ok (.sipush 16384, 3) := by decide +kernel
theorem d_MO_init_17 : decode b_MO_init 17 = .ok (.newarray .byte, 2) := by decide +kernel
theorem d_MO_init_19 : decode b_MO_init 19 = .ok (.putfield 13, 3) := by decide +kernel
theorem d_MO_init_22 : decode b_MO_init 22 = .ok (.aload_n 0, 1) := by decide +kernel
theorem d_MO_init_23 : decode b_MO_init 23 = .ok (.sipush 16384, 3) := by decide +kernel
theorem d_MO_init_26 : decode b_MO_init 26 = .ok (.newarray .byte, 2) := by decide +kernel
theorem d_MO_init_28 : decode b_MO_init 28 = .ok (.putfield 16, 3) := by decide +kernel
theorem d_MO_init_31 : decode b_MO_init 31 = .ok (.aload_n 0, 1) := by decide +kernel
theorem d_MO_init_32 : decode b_MO_init 32 = .ok (.sipush 16384, 3) := by decide +kernel
theorem d_MO_init_35 : decode b_MO_init 35 = .ok (.newarray .byte, 2) := by decide +kernel
theorem d_MO_init_37 : decode b_MO_init 37 = .ok (.putfield 19, 3) := by decide +kernel
theorem d_MO_init_40 : decode b_MO_init 40 = .ok (.aload_n 0, 1) := by decide +kernel
theorem d_MO_init_41 : decode b_MO_init 41 = .ok (.ldc 22, 2) := by decide +kernel
theorem d_MO_init_43 : decode b_MO_init 43 = .ok (.newarray .byte, 2) := by decide +kernel
theorem d_MO_init_45 : decode b_MO_init 45 = .ok (.putfield 23, 3) := by decide +kernel
theorem d_MO_init_48 : decode b_MO_init 48 = .ok (.aload_n 0, 1) := by decide +kernel
theorem d_MO_init_49 : decode b_MO_init 49 = .ok (.sipush 4096, 3) := by decide +kernel
theorem d_MO_init_52 : decode b_MO_init 52 = .ok (.newarray .int, 2) := by decide +kernel
theorem d_MO_init_54 : decode b_MO_init 54 = .ok (.putfield 26, 3) := by decide +kernel
theorem d_MO_init_57 : decode b_MO_init 57 = .ok (.aload_n 0, 1) := by decide +kernel
theorem d_MO_init_58 : decode b_MO_init 58 = .ok (.sipush 4096, 3) := by decide +kernel
theorem d_MO_init_61 : decode b_MO_init 61 = .ok (.newarray .int, 2) := by decide +kernel
theorem d_MO_init_63 : decode b_MO_init 63 = .ok (.putfield 30, 3) := by decide +kernel
theorem d_MO_init_66 : decode b_MO_init 66 = .ok (.aload_n 0, 1) := by decide +kernel
theorem d_MO_init_67 : decode b_MO_init 67 = .ok (.sipush 4096, 3) := by decide +kernel
theorem d_MO_init_70 : decode b_MO_init 70 = .ok (.newarray .int, 2) := by decide +kernel
theorem d_MO_init_72 : decode b_MO_init 72 = .ok (.putfield 33, 3) := by decide +kernel
theorem d_MO_init_75 : decode b_MO_init 75 = .ok (.aload_n 0, 1) := by decide +kernel
theorem d_MO_init_76 : decode b_MO_init 76 = .ok (.ldc 36, 2) := by decide +kernel
theorem d_MO_init_78 : decode b_MO_init 78 = .ok (.newarray .int, 2) := by decide +kernel
theorem d_MO_init_80 : decode b_MO_init 80 = .ok (.putfield 37, 3) := by decide +kernel
theorem d_MO_init_83 : decode b_MO_init 83 = .ok (.return_, 1) := by decide +kernel
theorem d_MO_thrown_0 : decode b_MO_thrown 0 = .ok (.aload_n 0, 1) := by decide +kernel
theorem d_MO_thrown_1 : decode b_MO_thrown 1 = .ok (.getfield 40, 3) := by decide +kernel
theorem d_MO_thrown_4 : decode b_MO_thrown 4 = .ok (.ireturn, 1) := by decide +kernel
theorem d_MO_fail_0 : decode b_MO_fail 0 = .ok (.aload_n 0, 1) := by decide +kernel
theorem d_MO_fail_1 : decode b_MO_fail 1 = .ok (.iload_n 1, 1) := by decide +kernel
theorem d_MO_fail_2 : decode b_MO_fail 2 = .ok (.putfield 40, 3) := by decide +kernel
theorem d_MO_fail_5 : decode b_MO_fail 5 = .ok (.iconst 0, 1) := by decide +kernel
theorem d_MO_fail_6 : decode b_MO_fail 6 = .ok (.ireturn, 1) := by decide +kernel
theorem d_MO_can_0 : decode b_MO_can 0 = .ok (.iload_n 1, 1) := by decide +kernel
theorem d_MO_can_1 : decode b_MO_can 1 = .ok (.ifCond .ne 11, 3) := by decide +kernel
theorem d_MO_can_4 : decode b_MO_can 4 = .ok (.new 44, 3) := by decide +kernel
theorem d_MO_can_7 : decode b_MO_can 7 = .ok (.dup, 1) := by decide +kernel
theorem d_MO_can_8 : decode b_MO_can 8 = .ok (.invokespecial 46, 3) := by decide +kernel
theorem d_MO_can_11 : decode b_MO_can 11 = .ok (.athrow, 1) := by decide +kernel
theorem d_MO_can_12 : decode b_MO_can 12 = .ok (.return_, 1) := by decide +kernel
theorem d_MO_bits_0 : decode b_MO_bits 0 = .ok (.iconst 0, 1) := by decide +kernel
theorem d_MO_bits_1 : decode b_MO_bits 1 = .ok (.istore_n 2, 1) := by decide +kernel
theorem d_MO_bits_2 : decode b_MO_bits 2 = .ok (.iconst 0, 1) := by decide +kernel
theorem d_MO_bits_3 : decode b_MO_bits 3 = .ok (.istore_n 3, 1) := by decide +kernel
theorem d_MO_bits_4 : decode b_MO_bits 4 = .ok (.iload_n 3, 1) := by decide +kernel
theorem d_MO_bits_5 : decode b_MO_bits 5 = .ok (.iload_n 1, 1) := by decide +kernel
theorem d_MO_bits_6 : decode b_MO_bits 6 = .ok (.if_icmp .ge 68, 3) := by decide +kernel
theorem d_MO_bits_9 : decode b_MO_bits 9 = .ok (.aload_n 0, 1) := by decide +kernel
theorem d_MO_bits_10 : decode b_MO_bits 10 = .ok (.aload_n 0, 1) := by decide +kernel
theorem d_MO_bits_11 : decode b_MO_bits 11 = .ok (.getfield 47, 3) := by decide +kernel
theorem d_MO_bits_14 : decode b_MO_bits 14 = .ok (.bipush 8, 2) := by decide +kernel
theorem d_MO_bits_16 : decode b_MO_bits 16 = .ok (.aload_n 0, 1) := by decide +kernel
theorem d_MO_bits_17 : decode b_MO_bits 17 = .ok (.getfield 50, 3) := by decide +kernel
theorem d_MO_bits_20 : decode b_MO_bits 20 = .ok (.imul, 1) := by decide +kernel
theorem d_MO_bits_21 : decode b_MO_bits 21 = .ok (.if_icmp .ge 7, 3) := by decide +kernel
theorem d_MO_bits_24 : decode b_MO_bits 24 = .ok (.iconst 1, 1) := by decide +kernel
theorem d_MO_bits_25 : decode b_MO_bits 25 = .ok (.goto 4, 3) := by decide +kernel
theorem d_MO_bits_28 : decode b_MO_bits 28 = .ok (.iconst 0, 1) := by decide +kernel
theorem d_MO_bits_29 : decode b_MO_bits 29 = .ok (.invokevirtual 53, 3) := by decide +kernel
theorem d_MO_bits_32 : decode b_MO_bits 32 = .ok (.iload_n 2, 1) := by decide +kernel
theorem d_MO_bits_33 : decode b_MO_bits 33 = .ok (.aload_n 0, 1) := by decide +kernel
theorem d_MO_bits_34 : decode b_MO_bits 34 = .ok (.getfield 16, 3) := by decide +kernel
theorem d_MO_bits_37 : decode b_MO_bits 37 = .ok (.aload_n 0, 1) := by decide +kernel
theorem d_MO_bits_38 : decode b_MO_bits 38 = .ok (.getfield 47, 3) := by decide +kernel
theorem d_MO_bits_41 : decode b_MO_bits 41 = .ok (.iconst 3, 1) := by decide +kernel
theorem d_MO_bits_42 : decode b_MO_bits 42 = .ok (.ishr, 1) := by decide +kernel
theorem d_MO_bits_43 : decode b_MO_bits 43 = .ok (.baload, 1) := by decide +kernel
theorem d_MO_bits_44 : decode b_MO_bits 44 = .ok (.aload_n 0, 1) := by decide +kernel
theorem d_MO_bits_45 : decode b_MO_bits 45 = .ok (.getfield 47, 3) := by decide +kernel
theorem d_MO_bits_48 : decode b_MO_bits 48 = .ok (.bipush 7, 2) := by decide +kernel
theorem d_MO_bits_50 : decode b_MO_bits 50 = .ok (.iand, 1) := by decide +kernel
theorem d_MO_bits_51 : decode b_MO_bits 51 = .ok (.ishr, 1) := by decide +kernel
theorem d_MO_bits_52 : decode b_MO_bits 52 = .ok (.iconst 1, 1) := by decide +kernel
theorem d_MO_bits_53 : decode b_MO_bits 53 = .ok (.iand, 1) := by decide +kernel
theorem d_MO_bits_54 : decode b_MO_bits 54 = .ok (.iload_n 3, 1) := by decide +kernel
theorem d_MO_bits_55 : decode b_MO_bits 55 = .ok (.ishl, 1) := by decide +kernel
theorem d_MO_bits_56 : decode b_MO_bits 56 = .ok (.ior, 1) := by decide +kernel
theorem d_MO_bits_57 : decode b_MO_bits 57 = .ok (.istore_n 2, 1) := by decide +kernel
theorem d_MO_bits_58 : decode b_MO_bits 58 = .ok (.aload_n 0, 1) := by decide +kernel
theorem d_MO_bits_59 : decode b_MO_bits 59 = .ok (.dup, 1) := by decide +kernel
theorem d_MO_bits_60 : decode b_MO_bits 60 = .ok (.getfield 47, 3) := by decide +kernel
theorem d_MO_bits_63 : decode b_MO_bits 63 = .ok (.iconst 1, 1) := by decide +kernel
theorem d_MO_bits_64 : decode b_MO_bits 64 = .ok (.iadd, 1) := by decide +kernel
theorem d_MO_bits_65 : decode b_MO_bits 65 = .ok (.putfield 47, 3) := by decide +kernel
theorem d_MO_bits_68 : decode b_MO_bits 68 = .ok (.iinc 3 1, 3) := by decide +kernel
theorem d_MO_bits_71 : decode b_MO_bits 71 = .ok (.goto (-67), 3) := by decide +kernel
theorem d_MO_bits_74 : decode b_MO_bits 74 = .ok (.iload_n 2, 1) := by decide +kernel
theorem d_MO_bits_75 : decode b_MO_bits 75 = .ok (.ireturn, 1) := by decide +kernel
theorem d_MO_put_0 : decode b_MO_put 0 = .ok (.aload_n 0, 1) := by decide +kernel
theorem d_MO_put_1 : decode b_MO_put 1 = .ok (.getfield 57, 3) := by decide +kernel
theorem d_MO_put_4 : decode b_MO_put 4 = .ok (.ldc 22, 2) := by decide +kernel
theorem d_MO_put_6 : decode b_MO_put 6 = .ok (.if_icmp .ne 11, 3) := by decide +kernel
theorem d_MO_put_9 : decode b_MO_put 9 = .ok (.new 60, 3) := by decide +kernel
theorem d_MO_put_12 : decode b_MO_put 12 = .ok (.dup, 1) := by decide +kernel
theorem d_MO_put_13 : decode b_MO_put 13 = .ok (.invokespecial 62, 3) := by decide +kernel
theorem d_MO_put_16 : decode b_MO_put 16 = .ok (.athrow, 1) := by decide +kernel
theorem d_MO_put_17 : decode b_MO_put 17 = .ok (.aload_n 0, 1) := by decide +kernel
theorem d_MO_put_18 : decode b_MO_put 18 = .ok (.getfield 23, 3) := by decide +kernel
theorem d_MO_put_21 : decode b_MO_put 21 = .ok (.aload_n 0, 1) := by decide +kernel
theorem d_MO_put_22 : decode b_MO_put 22 = .ok (.getfield 57, 3) := by decide +kernel
theorem d_MO_put_25 : decode b_MO_put 25 = .ok (.iload_n 1, 1) := by decide +kernel
theorem d_MO_put_26 : decode b_MO_put 26 = .ok (.i2b, 1) := by decide +kernel
theorem d_MO_put_27 : decode b_MO_put 27 = .ok (.bastore, 1) := by decide +kernel
theorem d_MO_put_28 : decode b_MO_put 28 = .ok (.aload_n 0, 1) := by decide +kernel
theorem d_MO_put_29 : decode b_MO_put 29 = .ok (.dup, 1) := by decide +kernel
theorem d_MO_put_30 : decode b_MO_put 30 = .ok (.getfield 57, 3) := by decide +kernel
theorem d_MO_put_33 : decode b_MO_put 33 = .ok (.iconst 1, 1) := by decide +kernel
theorem d_MO_put_34 : decode b_MO_put 34 = .ok (.iadd, 1) := by decide +kernel
theorem d_MO_put_35 : decode b_MO_put 35 = .ok (.putfield 57, 3) := by decide +kernel
theorem d_MO_put_38 : decode b_MO_put 38 = .ok (.return_, 1) := by decide +kernel
theorem d_MO_firstOf_0 : decode b_MO_firstOf 0 = .ok (.iload_n 1, 1) := by decide +kernel
theorem d_MO_firstOf_1 : decode b_MO_firstOf 1 = .ok (.istore_n 2, 1) := by decide +kernel
theorem d_MO_firstOf_2 : decode b_MO_firstOf 2 = .ok (.aload_n 0, 1) := by decide +kernel
theorem d_MO_firstOf_3 : decode b_MO_firstOf 3 = .ok (.getfield 26, 3) := by decide +kernel
theorem d_MO_firstOf_6 : decode b_MO_firstOf 6 = .ok (.iload_n 2, 1) := by decide +kernel
theorem d_MO_firstOf_7 : decode b_MO_firstOf 7 = .ok (.iaload, 1) := by decide +kernel
theorem d_MO_firstOf_8 : decode b_MO_firstOf 8 = .ok (.ifCond .lt 13, 3) := by decide +kernel
theorem d_MO_firstOf_11 : decode b_MO_firstOf 11 = .ok (.aload_n 0, 1) := by decide +kernel
theorem d_MO_firstOf_12 : decode b_MO_firstOf 12 = .ok (.getfield 26, 3) := by decide +kernel
theorem d_MO_firstOf_15 : decode b_MO_firstOf 15 = .ok (.iload_n 2, 1) := by decide +kernel
theorem d_MO_firstOf_16 : decode b_MO_firstOf 16 = .ok (.iaload, 1) := by decide +kernel
theorem d_MO_firstOf_17 : decode b_MO_firstOf 17 = .ok (.istore_n 2, 1) := by decide +kernel
theorem d_MO_firstOf_18 : decode b_MO_firstOf 18 = .ok (.goto (-16), 3) := by decide +kernel
theorem d_MO_firstOf_21 : decode b_MO_firstOf 21 = .ok (.iload_n 2, 1) := by decide +kernel
theorem d_MO_firstOf_22 : decode b_MO_firstOf 22 = .ok (.ireturn, 1) := by decide +kernel
theorem d_MO_giveRow_0 : decode b_MO_giveRow 0 = .ok (.aload_n 0, 1) := by decide +kernel
theorem d_MO_giveRow_1 : decode b_MO_giveRow 1 = .ok (.getfield 33, 3) := by decide +kernel
theorem d_MO_giveRow_4 : decode b_MO_giveRow 4 = .ok (.iload_n 1, 1) := by decide +kernel
theorem d_MO_giveRow_5 : decode b_MO_giveRow 5 = .ok (.iaload, 1) := by decide +kernel
theorem d_MO_giveRow_6 : decode b_MO_giveRow 6 = .ok (.istore_n 2, 1) := by decide +kernel
theorem d_MO_giveRow_7 : decode b_MO_giveRow 7 = .ok (.aload_n 0, 1) := by decide +kernel
theorem d_MO_giveRow_8 : decode b_MO_giveRow 8 = .ok (.getfield 63, 3) := by decide +kernel
theorem d_MO_giveRow_11 : decode b_MO_giveRow 11 = .ok (.iload_n 2, 1) := by decide +kernel
theorem d_MO_giveRow_12 : decode b_MO_giveRow 12 = .ok (.iadd, 1) := by decide +kernel
theorem d_MO_giveRow_13 : decode b_MO_giveRow 13 = .ok (.sipush 16384, 3) := by decide +kernel
theorem d_MO_giveRow_16 : decode b_MO_giveRow 16 = .ok (.if_icmp .le 11, 3) := by decide +kernel
theorem d_MO_giveRow_19 : decode b_MO_giveRow 19 = .ok (.new 60, 3) := by decide +kernel
theorem d_MO_giveRow_22 : decode b_MO_giveRow 22 = .ok (.dup, 1) := by decide +kernel
theorem d_MO_giveRow_23 : decode b_MO_giveRow 23 = .ok (.invokespecial 62, 3) := by decide +kernel
theorem d_MO_giveRow_26 : decode b_MO_giveRow 26 = .ok (.athrow, 1) := by decide +kernel
theorem d_MO_giveRow_27 : decode b_MO_giveRow 27 = .ok (.iload_n 1, 1) := by decide +kernel
theorem d_MO_giveRow_28 : decode b_MO_giveRow 28 = .ok (.istore_n 3, 1) := by decide +kernel
theorem d_MO_giveRow_29 : decode b_MO_giveRow 29 = .ok (.iload_n 2, 1) := by decide +kernel
theorem d_MO_giveRow_30 : decode b_MO_giveRow 30 = .ok (.iconst 1, 1) := by decide +kernel
theorem d_MO_giveRow_31 : decode b_MO_giveRow 31 = .ok (.isub, 1) := by decide +kernel
theorem d_MO_giveRow_32 : decode b_MO_giveRow 32 = .ok (.istore 4, 2) := by decide +kernel
theorem d_MO_giveRow_34 : decode b_MO_giveRow 34 = .ok (.iload 4, 2) := by decide +kernel
theorem d_MO_giveRow_36 : decode b_MO_giveRow 36 = .ok (.ifCond .lt 35, 3) := by decide +kernel
theorem d_MO_giveRow_39 : decode b_MO_giveRow 39 = .ok (.aload_n 0, 1) := by decide +kernel
theorem d_MO_giveRow_40 : decode b_MO_giveRow 40 = .ok (.getfield 19, 3) := by decide +kernel
theorem d_MO_giveRow_43 : decode b_MO_giveRow 43 = .ok (.aload_n 0, 1) := by decide +kernel
theorem d_MO_giveRow_44 : decode b_MO_giveRow 44 = .ok (.getfield 63, 3) := by decide +kernel
theorem d_MO_giveRow_47 : decode b_MO_giveRow 47 = .ok (.iload 4, 2) := by decide +kernel
theorem d_MO_giveRow_49 : decode b_MO_giveRow 49 = .ok (.iadd, 1) := by decide +kernel
theorem d_MO_giveRow_50 : decode b_MO_giveRow 50 = .ok (.aload_n 0, 1) := by decide +kernel
theorem d_MO_giveRow_51 : decode b_MO_giveRow 51 = .ok (.getfield 30, 3) := by decide +kernel
theorem d_MO_giveRow_54 : decode b_MO_giveRow 54 = .ok (.iload_n 3, 1) := by decide +kernel
theorem d_MO_giveRow_55 : decode b_MO_giveRow 55 = .ok (.iaload, 1) := by decide +kernel
theorem d_MO_giveRow_56 : decode b_MO_giveRow 56 = .ok (.i2b, 1) := by decide +kernel
theorem d_MO_giveRow_57 : decode b_MO_giveRow 57 = .ok (.bastore, 1) := by decide +kernel
theorem d_MO_giveRow_58 : decode b_MO_giveRow 58 = .ok (.aload_n 0, 1) := by decide +kernel
theorem d_MO_giveRow_59 : decode b_MO_giveRow 59 = .ok (.getfield 26, 3) := by decide +kernel
theorem d_MO_giveRow_62 : decode b_MO_giveRow 62 = .ok (.iload_n 3, 1) := by decide +kernel
theorem d_MO_giveRow_63 : decode b_MO_giveRow 63 = .ok (.iaload, 1) := by decide +kernel
theorem d_MO_giveRow_64 : decode b_MO_giveRow 64 = .ok (.istore_n 3, 1) := by decide +kernel
theorem d_MO_giveRow_65 : decode b_MO_giveRow 65 = .ok (.iinc 4 (-1), 3) := by decide +kernel
theorem d_MO_giveRow_68 : decode b_MO_giveRow 68 = .ok (.goto (-34), 3) := by decide +kernel
theorem d_MO_giveRow_71 : decode b_MO_giveRow 71 = .ok (.aload_n 0, 1) := by decide +kernel
theorem d_MO_giveRow_72 : decode b_MO_giveRow 72 = .ok (.dup, 1) := by decide +kernel
theorem d_MO_giveRow_73 : decode b_MO_giveRow 73 = .ok (.getfield 63, 3) := by decide +kernel
theorem d_MO_giveRow_76 : decode b_MO_giveRow 76 = .ok (.iload_n 2, 1) := by decide +kernel
theorem d_MO_giveRow_77 : decode b_MO_giveRow 77 = .ok (.iadd, 1) := by decide +kernel
theorem d_MO_giveRow_78 : decode b_MO_giveRow 78 = .ok (.putfield 63, 3) := by decide +kernel
theorem d_MO_giveRow_81 : decode b_MO_giveRow 81 = .ok (.return_, 1) := by decide +kernel
theorem d_MO_unrows_0 : decode b_MO_unrows 0 = .ok (.iconst 1, 1) := by decide +kernel
theorem d_MO_unrows_1 : decode b_MO_unrows 1 = .ok (.iload_n 1, 1) := by decide +kernel
theorem d_MO_unrows_2 : decode b_MO_unrows 2 = .ok (.ishl, 1) := by decide +kernel
theorem d_MO_unrows_3 : decode b_MO_unrows 3 = .ok (.istore_n 2, 1) := by decide +kernel
theorem d_MO_unrows_4 : decode b_MO_unrows 4 = .ok (.iconst 0, 1) := by decide +kernel
theorem d_MO_unrows_5 : decode b_MO_unrows 5 = .ok (.istore_n 3, 1) := by decide +kernel
theorem d_MO_unrows_6 : decode b_MO_unrows 6 = .ok (.iload_n 3, 1) := by decide +kernel
theorem d_MO_unrows_7 : decode b_MO_unrows 7 = .ok (.iload_n 2, 1) := by decide +kernel
theorem d_MO_unrows_8 : decode b_MO_unrows 8 = .ok (.if_icmp .ge 30, 3) := by decide +kernel
theorem d_MO_unrows_11 : decode b_MO_unrows 11 = .ok (.aload_n 0, 1) := by decide +kernel
theorem d_MO_unrows_12 : decode b_MO_unrows 12 = .ok (.getfield 26, 3) := by decide +kernel
theorem d_MO_unrows_15 : decode b_MO_unrows 15 = .ok (.iload_n 3, 1) := by decide +kernel
theorem d_MO_unrows_16 : decode b_MO_unrows 16 = .ok (.iconst (-1), 1) := by decide +kernel
theorem d_MO_unrows_17 : decode b_MO_unrows 17 = .ok (.iastore, 1) := by decide +kernel
theorem d_MO_unrows_18 : decode b_MO_unrows 18 = .ok (.aload_n 0, 1) := by decide +kernel
theorem d_MO_unrows_19 : decode b_MO_unrows 19 = .ok (.getfield 30, 3) := by decide +kernel
theorem d_MO_unrows_22 : decode b_MO_unrows 22 = .ok (.iload_n 3, 1) := by decide +kernel
theorem d_MO_unrows_23 : decode b_MO_unrows 23 = .ok (.iload_n 3, 1) := by decide +kernel
theorem d_MO_unrows_24 : decode b_MO_unrows 24 = .ok (.iastore, 1) := by decide +kernel
theorem d_MO_unrows_25 : decode b_MO_unrows 25 = .ok (.aload_n 0, 1) := by decide +kernel
theorem d_MO_unrows_26 : decode b_MO_unrows 26 = .ok (.getfield 33, 3) := by decide +kernel
theorem d_MO_unrows_29 : decode b_MO_unrows 29 = .ok (.iload_n 3, 1) := by decide +kernel
theorem d_MO_unrows_30 : decode b_MO_unrows 30 = .ok (.iconst 1, 1) := by decide +kernel
theorem d_MO_unrows_31 : decode b_MO_unrows 31 = .ok (.iastore, 1) := by decide +kernel
theorem d_MO_unrows_32 : decode b_MO_unrows 32 = .ok (.iinc 3 1, 3) := by decide +kernel
theorem d_MO_unrows_35 : decode b_MO_unrows 35 = .ok (.goto (-29), 3) := by decide +kernel
theorem d_MO_unrows_38 : decode b_MO_unrows 38 = .ok (.iload_n 2, 1) := by decide +kernel
theorem d_MO_unrows_39 : decode b_MO_unrows 39 = .ok (.iconst 2, 1) := by decide +kernel
theorem d_MO_unrows_40 : decode b_MO_unrows 40 = .ok (.iadd, 1) := by decide +kernel
theorem d_MO_unrows_41 : decode b_MO_unrows 41 = .ok (.istore_n 3, 1) := by decide +kernel
theorem d_MO_unrows_42 : decode b_MO_unrows 42 = .ok (.iload_n 1, 1) := by decide +kernel
theorem d_MO_unrows_43 : decode b_MO_unrows 43 = .ok (.iconst 1, 1) := by decide +kernel
theorem d_MO_unrows_44 : decode b_MO_unrows 44 = .ok (.iadd, 1) := by decide +kernel
theorem d_MO_unrows_45 : decode b_MO_unrows 45 = .ok (.istore 4, 2) := by decide +kernel
theorem d_MO_unrows_47 : decode b_MO_unrows 47 = .ok (.iconst (-1), 1) := by decide +kernel
theorem d_MO_unrows_48 : decode b_MO_unrows 48 = .ok (.istore 5, 2) := by decide +kernel
theorem d_MO_unrows_50 : decode b_MO_unrows 50 = .ok (.aload_n 0, 1) := by decide +kernel
theorem d_MO_unrows_51 : decode b_MO_unrows 51 = .ok (.iconst 0, 1) := by decide +kernel
theorem d_MO_unrows_52 : decode b_MO_unrows 52 = .ok (.putfield 47, 3) := by decide +kernel
theorem d_MO_unrows_55 : decode b_MO_unrows 55 = .ok (.aload_n 0, 1) := by decide +kernel
theorem d_MO_unrows_56 : decode b_MO_unrows 56 = .ok (.iload 4, 2) := by decide +kernel
theorem d_MO_unrows_58 : decode b_MO_unrows 58 = .ok (.invokevirtual 66, 3) := by decide +kernel
theorem d_MO_unrows_61 : decode b_MO_unrows 61 = .ok (.istore 6, 2) := by decide +kernel
theorem d_MO_unrows_63 : decode b_MO_unrows 63 = .ok (.iload 6, 2) := by decide +kernel
theorem d_MO_unrows_65 : decode b_MO_unrows 65 = .ok (.iload_n 2, 1) := by decide +kernel
theorem d_MO_unrows_66 : decode b_MO_unrows 66 = .ok (.iconst 1, 1) := by decide +kernel
theorem d_MO_unrows_67 : decode b_MO_unrows 67 = .ok (.iadd, 1) := by decide +kernel
theorem d_MO_unrows_68 : decode b_MO_unrows 68 = .ok (.if_icmp .ne 4, 3) := by decide +kernel
theorem d_MO_unrows_71 : decode b_MO_unrows 71 = .ok (.return_, 1) := by decide +kernel
theorem d_MO_unrows_72 : decode b_MO_unrows 72 = .ok (.iload 6, 2) := by decide +kernel
theorem d_MO_unrows_74 : decode b_MO_unrows 74 = .ok (.iload_n 2, 1) := by decide +kernel
theorem d_MO_unrows_75 : decode b_MO_unrows 75 = .ok (.if_icmp .ne 18, 3) := by decide +kernel
theorem d_MO_unrows_78 : decode b_MO_unrows 78 = .ok (.iload_n 2, 1) := by decide +kernel
theorem d_MO_unrows_79 : decode b_MO_unrows 79 = .ok (.iconst 2, 1) := by decide +kernel
theorem d_MO_unrows_80 : decode b_MO_unrows 80 = .ok (.iadd, 1) := by decide +kernel
theorem d_MO_unrows_81 : decode b_MO_unrows 81 = .ok (.istore_n 3, 1) := by decide +kernel
theorem d_MO_unrows_82 : decode b_MO_unrows 82 = .ok (.iload_n 1, 1) := by decide +kernel
theorem d_MO_unrows_83 : decode b_MO_unrows 83 = .ok (.iconst 1, 1) := by decide +kernel
theorem d_MO_unrows_84 : decode b_MO_unrows 84 = .ok (.iadd, 1) := by decide +kernel
theorem d_MO_unrows_85 : decode b_MO_unrows 85 = .ok (.istore 4, 2) := by decide +kernel
theorem d_MO_unrows_87 : decode b_MO_unrows 87 = .ok (.iconst (-1), 1) := by decide +kernel
theorem d_MO_unrows_88 : decode b_MO_unrows 88 = .ok (.istore 5, 2) := by decide +kernel
theorem d_MO_unrows_90 : decode b_MO_unrows 90 = .ok (.goto (-35), 3) := by decide +kernel
theorem d_MO_unrows_93 : decode b_MO_unrows 93 = .ok (.iload 5, 2) := by decide +kernel
theorem d_MO_unrows_95 : decode b_MO_unrows 95 = .ok (.ifCond .ge 21, 3) := by decide +kernel
theorem d_MO_unrows_98 : decode b_MO_unrows 98 = .ok (.aload_n 0, 1) := by decide +kernel
theorem d_MO_unrows_99 : decode b_MO_unrows 99 = .ok (.iload 6, 2) := by decide +kernel
theorem d_MO_unrows_101 : decode b_MO_unrows 101 = .ok (.iload_n 2, 1) := by decide +kernel
theorem d_MO_unrows_102 : decode b_MO_unrows 102 = .ok (.if_icmp .ge 7, 3) := by decide +kernel
theorem d_MO_unrows_105 : decode b_MO_unrows 105 = .ok (.iconst 1, 1) := by decide +kernel
theorem d_MO_unrows_106 : decode b_MO_unrows 106 = .ok (.goto 4, 3) := by decide +kernel
theorem d_MO_unrows_109 : decode b_MO_unrows 109 = .ok (.iconst 0, 1) := by decide +kernel
theorem d_MO_unrows_110 : decode b_MO_unrows 110 = .ok (.invokevirtual 53, 3) := by decide +kernel
theorem d_MO_unrows_113 : decode b_MO_unrows 113 = .ok (.goto 87, 3) := by decide +kernel
theorem d_MO_unrows_116 : decode b_MO_unrows 116 = .ok (.aload_n 0, 1) := by decide +kernel
theorem d_MO_unrows_117 : decode b_MO_unrows 117 = .ok (.iload 6, 2) := by decide +kernel
theorem d_MO_unrows_119 : decode b_MO_unrows 119 = .ok (.iload_n 3, 1) := by decide +kernel
theorem d_MO_unrows_120 : decode b_MO_unrows 120 = .ok (.if_icmp .lt 16, 3) := by decide +kernel
theorem d_MO_unrows_123 : decode b_MO_unrows 123 = .ok (.iload 6, 2) := by decide +kernel
theorem d_MO_unrows_125 : decode b_MO_unrows 125 = .ok (.iload_n 3, 1) := by decide +kernel
theorem d_MO_unrows_126 : decode b_MO_unrows 126 = .ok (.if_icmp .ne 14, 3) := by decide +kernel
theorem d_MO_unrows_129 : decode b_MO_unrows 129 = .ok (.iload_n 3, 1) := by decide +kernel
theorem d_MO_unrows_130 : decode b_MO_unrows 130 = .ok (.sipush 4096, 3) := by decide +kernel
theorem d_MO_unrows_133 : decode b_MO_unrows 133 = .ok (.if_icmp .ge 7, 3) := by decide +kernel
theorem d_MO_unrows_136 : decode b_MO_unrows 136 = .ok (.iconst 1, 1) := by decide +kernel
theorem d_MO_unrows_137 : decode b_MO_unrows 137 = .ok (.goto 4, 3) := by decide +kernel
theorem d_MO_unrows_140 : decode b_MO_unrows 140 = .ok (.iconst 0, 1) := by decide +kernel
theorem d_MO_unrows_141 : decode b_MO_unrows 141 = .ok (.invokevirtual 53, 3) := by decide +kernel
theorem d_MO_unrows_144 : decode b_MO_unrows 144 = .ok (.iload_n 3, 1) := by decide +kernel
theorem d_MO_unrows_145 : decode b_MO_unrows 145 = .ok (.sipush 4096, 3) := by decide +kernel
theorem d_MO_unrows_148 : decode b_MO_unrows 148 = .ok (.if_icmp .ge 52, 3) := by decide +kernel
theorem d_MO_unrows_151 : decode b_MO_unrows 151 = .ok (.aload_n 0, 1) := by decide +kernel
theorem d_MO_unrows_152 : decode b_MO_unrows 152 = .ok (.getfield 26, 3) := by decide +kernel
theorem d_MO_unrows_155 : decode b_MO_unrows 155 = .ok (.iload_n 3, 1) := by decide +kernel
theorem d_MO_unrows_156 : decode b_MO_unrows 156 = .ok (.iload 5, 2) := by decide +kernel
theorem d_MO_unrows_158 : decode b_MO_unrows 158 = .ok (.iastore, 1) := by decide +kernel
theorem d_MO_unrows_159 : decode b_MO_unrows 159 = .ok (.aload_n 0, 1) := by decide +kernel
theorem d_MO_unrows_160 : decode b_MO_unrows 160 = .ok (.getfield 30, 3) := by decide +kernel
theorem d_MO_unrows_163 : decode b_MO_unrows 163 = .ok (.iload_n 3, 1) := by decide +kernel
theorem d_MO_unrows_164 : decode b_MO_unrows 164 = .ok (.aload_n 0, 1) := by decide +kernel
theorem d_MO_unrows_165 : decode b_MO_unrows 165 = .ok (.iload 6, 2) := by decide +kernel
theorem d_MO_unrows_167 : decode b_MO_unrows 167 = .ok (.iload_n 3, 1) := by decide +kernel
theorem d_MO_unrows_168 : decode b_MO_unrows 168 = .ok (.if_icmp .ne 8, 3) := by decide +kernel
theorem d_MO_unrows_171 : decode b_MO_unrows 171 = .ok (.iload 5, 2) := by decide +kernel
theorem d_MO_unrows_173 : decode b_MO_unrows 173 = .ok (.goto 5, 3) := by decide +kernel
theorem d_MO_unrows_176 : decode b_MO_unrows 176 = .ok (.iload 6, 2) := by decide +kernel
theorem d_MO_unrows_178 : decode b_MO_unrows 178 = .ok (.invokevirtual 70, 3) := by decide +kernel
theorem d_MO_unrows_181 : decode b_MO_unrows 181 = .ok (.iastore, 1) := by decide +kernel
theorem d_MO_unrows_182 : decode b_MO_unrows 182 = .ok (.aload_n 0, 1) := by decide +kernel
theorem d_MO_unrows_183 : decode b_MO_unrows 183 = .ok (.getfield 33, 3) := by decide +kernel
theorem d_MO_unrows_186 : decode b_MO_unrows 186 = .ok (.iload_n 3, 1) := by decide +kernel
theorem d_MO_unrows_187 : decode b_MO_unrows 187 = .ok (.aload_n 0, 1) := by decide +kernel
theorem d_MO_unrows_188 : decode b_MO_unrows 188 = .ok (.getfield 33, 3) := by decide +kernel
theorem d_MO_unrows_191 : decode b_MO_unrows 191 = .ok (.iload 5, 2) := by decide +kernel
theorem d_MO_unrows_193 : decode b_MO_unrows 193 = .ok (.iaload, 1) := by decide +kernel
theorem d_MO_unrows_194 : decode b_MO_unrows 194 = .ok (.iconst 1, 1) := by decide +kernel
theorem d_MO_unrows_195 : decode b_MO_unrows 195 = .ok (.iadd, 1) := by decide +kernel
theorem d_MO_unrows_196 : decode b_MO_unrows 196 = .ok (.iastore, 1) := by decide +kernel
theorem d_MO_unrows_197 : decode b_MO_unrows 197 = .ok (.iinc 3 1, 3) := by decide +kernel
theorem d_MO_unrows_200 : decode b_MO_unrows 200 = .ok (.aload_n 0, 1) := by decide +kernel
theorem d_MO_unrows_201 : decode b_MO_unrows 201 = .ok (.iload 6, 2) := by decide +kernel
theorem d_MO_unrows_203 : decode b_MO_unrows 203 = .ok (.invokevirtual 73, 3) := by decide +kernel
theorem d_MO_unrows_206 : decode b_MO_unrows 206 = .ok (.iload 6, 2) := by decide +kernel
theorem d_MO_unrows_208 : decode b_MO_unrows 208 = .ok (.istore 5, 2) := by decide +kernel
theorem d_MO_unrows_210 : decode b_MO_unrows 210 = .ok (.iload_n 3, 1) := by decide +kernel
theorem d_MO_unrows_211 : decode b_MO_unrows 211 = .ok (.iconst 1, 1) := by decide +kernel
theorem d_MO_unrows_212 : decode b_MO_unrows 212 = .ok (.iload 4, 2) := by decide +kernel
theorem d_MO_unrows_214 : decode b_MO_unrows 214 = .ok (.ishl, 1) := by decide +kernel
theorem d_MO_unrows_215 : decode b_MO_unrows 215 = .ok (.if_icmp .ne 13, 3) := by decide +kernel
theorem d_MO_unrows_218 : decode b_MO_unrows 218 = .ok (.iload 4, 2) := by decide +kernel
theorem d_MO_unrows_220 : decode b_MO_unrows 220 = .ok (.bipush 12, 2) := by decide +kernel
theorem d_MO_unrows_222 : decode b_MO_unrows 222 = .ok (.if_icmp .ge 6, 3) := by decide +kernel
theorem d_MO_unrows_225 : decode b_MO_unrows 225 = .ok (.iinc 4 1, 3) := by decide +kernel
theorem d_MO_unrows_228 : decode b_MO_unrows 228 = .ok (.goto (-173), 3) := by decide +kernel
theorem d_MO_putBits_0 : decode b_MO_putBits 0 = .ok (.iconst 0, 1) := by decide +kernel
theorem d_MO_putBits_1 : decode b_MO_putBits 1 = .ok (.istore_n 3, 1) := by decide +kernel
theorem d_MO_putBits_2 : decode b_MO_putBits 2 = .ok (.iload_n 3, 1) := by decide +kernel
theorem d_MO_putBits_3 : decode b_MO_putBits 3 = .ok (.iload_n 2, 1) := by decide +kernel
theorem d_MO_putBits_4 : decode b_MO_putBits 4 = .ok (.if_icmp .ge 51, 3) := by decide +kernel
theorem d_MO_putBits_7 : decode b_MO_putBits 7 = .ok (.aload_n 0, 1) := by decide +kernel
theorem d_MO_putBits_8 : decode b_MO_putBits 8 = .ok (.dup, 1) := by decide +kernel
theorem d_MO_putBits_9 : decode b_MO_putBits 9 = .ok (.getfield 77, 3) := by decide +kernel
theorem d_MO_putBits_12 : decode b_MO_putBits 12 = .ok (.iload_n 1, 1) := by decide +kernel
theorem d_MO_putBits_13 : decode b_MO_putBits 13 = .ok (.iload_n 3, 1) := by decide +kernel
theorem d_MO_putBits_14 : decode b_MO_putBits 14 = .ok (.ishr, 1) := by decide +kernel
theorem d_MO_putBits_15 : decode b_MO_putBits 15 = .ok (.iconst 1, 1) := by decide +kernel
theorem d_MO_putBits_16 : decode b_MO_putBits 16 = .ok (.iand, 1) := by decide +kernel
theorem d_MO_putBits_17 : decode b_MO_putBits 17 = .ok (.aload_n 0, 1) := by decide +kernel
theorem d_MO_putBits_18 : decode b_MO_putBits 18 = .ok (.getfield 80, 3) := by decide +kernel
theorem d_MO_putBits_21 : decode b_MO_putBits 21 = .ok (.ishl, 1) := by decide +kernel
theorem d_MO_putBits_22 : decode b_MO_putBits 22 = .ok (.ior, 1) := by decide +kernel
theorem d_MO_putBits_23 : decode b_MO_putBits 23 = .ok (.putfield 77, 3) := by decide +kernel
theorem d_MO_putBits_26 : decode b_MO_putBits 26 = .ok (.aload_n 0, 1) := by decide +kernel
theorem d_MO_putBits_27 : decode b_MO_putBits 27 = .ok (.dup, 1) := by decide +kernel
theorem d_MO_putBits_28 : decode b_MO_putBits 28 = .ok (.getfield 80, 3) := by decide +kernel
theorem d_MO_putBits_31 : decode b_MO_putBits 31 = .ok (.iconst 1, 1) := by decide +kernel
theorem d_MO_putBits_32 : decode b_MO_putBits 32 = .ok (.iadd, 1) := by decide +kernel
theorem d_MO_putBits_33 : decode b_MO_putBits 33 = .ok (.putfield 80, 3) := by decide +kernel
theorem d_MO_putBits_36 : decode b_MO_putBits 36 = .ok (.aload_n 0, 1) := by decide +kernel
theorem d_MO_putBits_37 : decode b_MO_putBits 37 = .ok (.getfield 80, 3) := by decide +kernel
theorem d_MO_putBits_40 : decode b_MO_putBits 40 = .ok (.bipush 8, 2) := by decide +kernel
theorem d_MO_putBits_42 : decode b_MO_putBits 42 = .ok (.if_icmp .ne 7, 3) := by decide +kernel
theorem d_MO_putBits_45 : decode b_MO_putBits 45 = .ok (.aload_n 0, 1) := by decide +kernel
theorem d_MO_putBits_46 : decode b_MO_putBits 46 = .ok (.invokevirtual 83, 3) := by decide +kernel
theorem d_MO_putBits_49 : decode b_MO_putBits 49 = .ok (.iinc 3 1, 3) := by decide +kernel
theorem d_MO_putBits_52 : decode b_MO_putBits 52 = .ok (.goto (-50), 3) := by decide +kernel
theorem d_MO_putBits_55 : decode b_MO_putBits 55 = .ok (.return_, 1) := by decide +kernel
theorem d_MO_flush_0 : decode b_MO_flush 0 = .ok (.aload_n 0, 1) := by decide +kernel
theorem d_MO_flush_1 : decode b_MO_flush 1 = .ok (.getfield 80, 3) := by decide +kernel
theorem d_MO_flush_4 : decode b_MO_flush 4 = .ok (.ifCond .ne 4, 3) := by decide +kernel
theorem d_MO_flush_7 : decode b_MO_flush 7 = .ok (.return_, 1) := by decide +kernel
theorem d_MO_flush_8 : decode b_MO_flush 8 = .ok (.aload_n 0, 1) := by decide +kernel
theorem d_MO_flush_9 : decode b_MO_flush 9 = .ok (.aload_n 0, 1) := by decide +kernel
theorem d_MO_flush_10 : decode b_MO_flush 10 = .ok (.getfield 77, 3) := by decide +kernel
theorem d_MO_flush_13 : decode b_MO_flush 13 = .ok (.invokevirtual 86, 3) := by decide +kernel
theorem d_MO_flush_16 : decode b_MO_flush 16 = .ok (.aload_n 0, 1) := by decide +kernel
theorem d_MO_flush_17 : decode b_MO_flush 17 = .ok (.iconst 0, 1) := by decide +kernel
theorem d_MO_flush_18 : decode b_MO_flush 18 = .ok (.putfield 77, 3) := by decide +kernel
theorem d_MO_flush_21 : decode b_MO_flush 21 = .ok (.aload_n 0, 1) := by decide +kernel
theorem d_MO_flush_22 : decode b_MO_flush 22 = .ok (.iconst 0, 1) := by decide +kernel
theorem d_MO_flush_23 : decode b_MO_flush 23 = .ok (.putfield 80, 3) := by decide +kernel
theorem d_MO_flush_26 : decode b_MO_flush 26 = .ok (.return_, 1) := by decide +kernel
theorem d_MO_begin_0 : decode b_MO_begin 0 = .ok (.aload_n 0, 1) := by decide +kernel
theorem d_MO_begin_1 : decode b_MO_begin 1 = .ok (.iload_n 1, 1) := by decide +kernel
theorem d_MO_begin_2 : decode b_MO_begin 2 = .ok (.iconst 1, 1) := by decide +kernel
theorem d_MO_begin_3 : decode b_MO_begin 3 = .ok (.iadd, 1) := by decide +kernel
theorem d_MO_begin_4 : decode b_MO_begin 4 = .ok (.putfield 89, 3) := by decide +kernel
theorem d_MO_begin_7 : decode b_MO_begin 7 = .ok (.aload_n 0, 1) := by decide +kernel
theorem d_MO_begin_8 : decode b_MO_begin 8 = .ok (.iconst 1, 1) := by decide +kernel
theorem d_MO_begin_9 : decode b_MO_begin 9 = .ok (.iload_n 1, 1) := by decide +kernel
theorem d_MO_begin_10 : decode b_MO_begin 10 = .ok (.ishl, 1) := by decide +kernel
theorem d_MO_begin_11 : decode b_MO_begin 11 = .ok (.iconst 2, 1) := by decide +kernel
theorem d_MO_begin_12 : decode b_MO_begin 12 = .ok (.iadd, 1) := by decide +kernel
theorem d_MO_begin_13 : decode b_MO_begin 13 = .ok (.putfield 92, 3) := by decide +kernel
theorem d_MO_begin_16 : decode b_MO_begin 16 = .ok (.aload_n 0, 1) := by decide +kernel
theorem d_MO_begin_17 : decode b_MO_begin 17 = .ok (.iconst 1, 1) := by decide +kernel
theorem d_MO_begin_18 : decode b_MO_begin 18 = .ok (.putfield 95, 3) := by decide +kernel
theorem d_MO_begin_21 : decode b_MO_begin 21 = .ok (.return_, 1) := by decide +kernel
theorem d_MO_emit_0 : decode b_MO_emit 0 = .ok (.aload_n 0, 1) := by decide +kernel
theorem d_MO_emit_1 : decode b_MO_emit 1 = .ok (.iload_n 1, 1) := by decide +kernel
theorem d_MO_emit_2 : decode b_MO_emit 2 = .ok (.aload_n 0, 1) := by decide +kernel
theorem d_MO_emit_3 : decode b_MO_emit 3 = .ok (.getfield 89, 3) := by decide +kernel
theorem d_MO_emit_6 : decode b_MO_emit 6 = .ok (.invokevirtual 99, 3) := by decide +kernel
theorem d_MO_emit_9 : decode b_MO_emit 9 = .ok (.aload_n 0, 1) := by decide +kernel
theorem d_MO_emit_10 : decode b_MO_emit 10 = .ok (.getfield 95, 3) := by decide +kernel
theorem d_MO_emit_13 : decode b_MO_emit 13 = .ok (.ifCond .ne 23, 3) := by decide +kernel
theorem d_MO_emit_16 : decode b_MO_emit 16 = .ok (.aload_n 0, 1) := by decide +kernel
theorem d_MO_emit_17 : decode b_MO_emit 17 = .ok (.getfield 92, 3) := by decide +kernel
theorem d_MO_emit_20 : decode b_MO_emit 20 = .ok (.sipush 4096, 3) := by decide +kernel
theorem d_MO_emit_23 : decode b_MO_emit 23 = .ok (.if_icmp .ge 13, 3) := by decide +kernel
theorem d_MO_emit_26 : decode b_MO_emit 26 = .ok (.aload_n 0, 1) := by decide +kernel
theorem d_MO_emit_27 : decode b_MO_emit 27 = .ok (.dup, 1) := by decide +kernel
theorem d_MO_emit_28 : decode b_MO_emit 28 = .ok (.getfield 92, 3) := by decide +kernel
theorem d_MO_emit_31 : decode b_MO_emit 31 = .ok (.iconst 1, 1) := by decide +kernel
theorem d_MO_emit_32 : decode b_MO_emit 32 = .ok (.iadd, 1) := by decide +kernel
theorem d_MO_emit_33 : decode b_MO_emit 33 = .ok (.putfield 92, 3) := by decide +kernel
theorem d_MO_emit_36 : decode b_MO_emit 36 = .ok (.aload_n 0, 1) := by decide +kernel
theorem d_MO_emit_37 : decode b_MO_emit 37 = .ok (.iconst 0, 1) := by decide +kernel
theorem d_MO_emit_38 : decode b_MO_emit 38 = .ok (.putfield 95, 3) := by decide +kernel
theorem d_MO_emit_41 : decode b_MO_emit 41 = .ok (.aload_n 0, 1) := by decide +kernel
theorem d_MO_emit_42 : decode b_MO_emit 42 = .ok (.getfield 92, 3) := by decide +kernel
theorem d_MO_emit_45 : decode b_MO_emit 45 = .ok (.iconst 1, 1) := by decide +kernel
theorem d_MO_emit_46 : decode b_MO_emit 46 = .ok (.aload_n 0, 1) := by decide +kernel
theorem d_MO_emit_47 : decode b_MO_emit 47 = .ok (.getfield 89, 3) := by decide +kernel
theorem d_MO_emit_50 : decode b_MO_emit 50 = .ok (.ishl, 1) := by decide +kernel
theorem d_MO_emit_51 : decode b_MO_emit 51 = .ok (.if_icmp .ne 22, 3) := by decide +kernel
theorem d_MO_emit_54 : decode b_MO_emit 54 = .ok (.aload_n 0, 1) := by decide +kernel
theorem d_MO_emit_55 : decode b_MO_emit 55 = .ok (.getfield 89, 3) := by decide +kernel
theorem d_MO_emit_58 : decode b_MO_emit 58 = .ok (.bipush 12, 2) := by decide +kernel
theorem d_MO_emit_60 : decode b_MO_emit 60 = .ok (.if_icmp .ge 13, 3) := by decide +kernel
theorem d_MO_emit_63 : decode b_MO_emit 63 = .ok (.aload_n 0, 1) := by decide +kernel
theorem d_MO_emit_64 : decode b_MO_emit 64 = .ok (.dup, 1) := by decide +kernel
theorem d_MO_emit_65 : decode b_MO_emit 65 = .ok (.getfield 89, 3) := by decide +kernel
theorem d_MO_emit_68 : decode b_MO_emit 68 = .ok (.iconst 1, 1) := by decide +kernel
theorem d_MO_emit_69 : decode b_MO_emit 69 = .ok (.iadd, 1) := by decide +kernel
theorem d_MO_emit_70 : decode b_MO_emit 70 = .ok (.putfield 89, 3) := by decide +kernel
theorem d_MO_emit_73 : decode b_MO_emit 73 = .ok (.return_, 1) := by decide +kernel
theorem d_MO_pack2_0 : decode b_MO_pack2 0 = .ok (.aload_n 0, 1) := by decide +kernel
theorem d_MO_pack2_1 : decode b_MO_pack2 1 = .ok (.iconst 0, 1) := by decide +kernel
theorem d_MO_pack2_2 : decode b_MO_pack2 2 = .ok (.putfield 77, 3) := by decide +kernel
theorem d_MO_pack2_5 : decode b_MO_pack2 5 = .ok (.aload_n 0, 1) := by decide +kernel
theorem d_MO_pack2_6 : decode b_MO_pack2 6 = .ok (.iconst 0, 1) := by decide +kernel
theorem d_MO_pack2_7 : decode b_MO_pack2 7 = .ok (.putfield 80, 3) := by decide +kernel
theorem d_MO_pack2_10 : decode b_MO_pack2 10 = .ok (.iconst 1, 1) := by decide +kernel
theorem d_MO_pack2_11 : decode b_MO_pack2 11 = .ok (.iload_n 1, 1) := by decide +kernel
theorem d_MO_pack2_12 : decode b_MO_pack2 12 = .ok (.ishl, 1) := by decide +kernel
theorem d_MO_pack2_13 : decode b_MO_pack2 13 = .ok (.istore_n 3, 1) := by decide +kernel
theorem d_MO_pack2_14 : decode b_MO_pack2 14 = .ok (.aload_n 0, 1) := by decide +kernel
theorem d_MO_pack2_15 : decode b_MO_pack2 15 = .ok (.iload_n 1, 1) := by decide +kernel
theorem d_MO_pack2_16 : decode b_MO_pack2 16 = .ok (.invokevirtual 103, 3) := by decide +kernel
theorem d_MO_pack2_19 : decode b_MO_pack2 19 = .ok (.aload_n 0, 1) := by decide +kernel
theorem d_MO_pack2_20 : decode b_MO_pack2 20 = .ok (.iload_n 3, 1) := by decide +kernel
theorem d_MO_pack2_21 : decode b_MO_pack2 21 = .ok (.aload_n 0, 1) := by decide +kernel
theorem d_MO_pack2_22 : decode b_MO_pack2 22 = .ok (.getfield 89, 3) := by decide +kernel
theorem d_MO_pack2_25 : decode b_MO_pack2 25 = .ok (.invokevirtual 99, 3) := by decide +kernel
theorem d_MO_pack2_28 : decode b_MO_pack2 28 = .ok (.iconst 0, 1) := by decide +kernel
theorem d_MO_pack2_29 : decode b_MO_pack2 29 = .ok (.istore 4, 2) := by decide +kernel
theorem d_MO_pack2_31 : decode b_MO_pack2 31 = .ok (.iload 4, 2) := by decide +kernel
theorem d_MO_pack2_33 : decode b_MO_pack2 33 = .ok (.ldc 36, 2) := by decide +kernel
theorem d_MO_pack2_35 : decode b_MO_pack2 35 = .ok (.if_icmp .ge 17, 3) := by decide +kernel
theorem d_MO_pack2_38 : decode b_MO_pack2 38 = .ok (.aload_n 0, 1) := by decide +kernel
theorem d_MO_pack2_39 : decode b_MO_pack2 39 = .ok (.getfield 37, 3) := by decide +kernel
theorem d_MO_pack2_42 : decode b_MO_pack2 42 = .ok (.iload 4, 2) := by decide +kernel
theorem d_MO_pack2_44 : decode b_MO_pack2 44 = .ok (.iconst 0, 1) := by decide +kernel
theorem d_MO_pack2_45 : decode b_MO_pack2 45 = .ok (.iastore, 1) := by decide +kernel
theorem d_MO_pack2_46 : decode b_MO_pack2 46 = .ok (.iinc 4 1, 3) := by decide +kernel
theorem d_MO_pack2_49 : decode b_MO_pack2 49 = .ok (.goto (-18), 3) := by decide +kernel
theorem d_MO_pack2_52 : decode b_MO_pack2 52 = .ok (.iload_n 3, 1) := by decide +kernel
theorem d_MO_pack2_53 : decode b_MO_pack2 53 = .ok (.iconst 2, 1) := by decide +kernel
theorem d_MO_pack2_54 : decode b_MO_pack2 54 = .ok (.iadd, 1) := by decide +kernel
theorem d_MO_pack2_55 : decode b_MO_pack2 55 = .ok (.istore 4, 2) := by decide +kernel
theorem d_MO_pack2_57 : decode b_MO_pack2 57 = .ok (.aload_n 0, 1) := by decide +kernel
theorem d_MO_pack2_58 : decode b_MO_pack2 58 = .ok (.getfield 19, 3) := by decide +kernel
theorem d_MO_pack2_61 : decode b_MO_pack2 61 = .ok (.iconst 0, 1) := by decide +kernel
theorem d_MO_pack2_62 : decode b_MO_pack2 62 = .ok (.baload, 1) := by decide +kernel
theorem d_MO_pack2_63 : decode b_MO_pack2 63 = .ok (.sipush 255, 3) := by decide +kernel
theorem d_MO_pack2_66 : decode b_MO_pack2 66 = .ok (.iand, 1) := by decide +kernel
theorem d_MO_pack2_67 : decode b_MO_pack2 67 = .ok (.istore 5, 2) := by decide +kernel
theorem d_MO_pack2_69 : decode b_MO_pack2 69 = .ok (.iconst 0, 1) := by decide +kernel
theorem d_MO_pack2_70 : decode b_MO_pack2 70 = .ok (.istore 6, 2) := by decide +kernel
theorem d_MO_pack2_72 : decode b_MO_pack2 72 = .ok (.iconst 1, 1) := by decide +kernel
theorem d_MO_pack2_73 : decode b_MO_pack2 73 = .ok (.istore 7, 2) := by decide +kernel
theorem d_MO_pack2_75 : decode b_MO_pack2 75 = .ok (.iload 7, 2) := by decide +kernel
theorem d_MO_pack2_77 : decode b_MO_pack2 77 = .ok (.iload_n 2, 1) := by decide +kernel
theorem d_MO_pack2_78 : decode b_MO_pack2 78 = .ok (.if_icmp .ge 156, 3) := by decide +kernel
theorem d_MO_pack2_81 : decode b_MO_pack2 81 = .ok (.aload_n 0, 1) := by decide +kernel
theorem d_MO_pack2_82 : decode b_MO_pack2 82 = .ok (.getfield 19, 3) := by decide +kernel
theorem d_MO_pack2_85 : decode b_MO_pack2 85 = .ok (.iload 7, 2) := by decide +kernel
theorem d_MO_pack2_87 : decode b_MO_pack2 87 = .ok (.baload, 1) := by decide +kernel
theorem d_MO_pack2_88 : decode b_MO_pack2 88 = .ok (.sipush 255, 3) := by decide +kernel
theorem d_MO_pack2_91 : decode b_MO_pack2 91 = .ok (.iand, 1) := by decide +kernel
theorem d_MO_pack2_92 : decode b_MO_pack2 92 = .ok (.istore 8, 2) := by decide +kernel
theorem d_MO_pack2_94 : decode b_MO_pack2 94 = .ok (.aload_n 0, 1) := by decide +kernel
theorem d_MO_pack2_95 : decode b_MO_pack2 95 = .ok (.getfield 37, 3) := by decide +kernel
theorem d_MO_pack2_98 : decode b_MO_pack2 98 = .ok (.sipush 256, 3) := by decide +kernel
theorem d_MO_pack2_101 : decode b_MO_pack2 101 = .ok (.iload 5, 2) := by decide +kernel
theorem d_MO_pack2_103 : decode b_MO_pack2 103 = .ok (.imul, 1) := by decide +kernel
theorem d_MO_pack2_104 : decode b_MO_pack2 104 = .ok (.iload 8, 2) := by decide +kernel
theorem d_MO_pack2_106 : decode b_MO_pack2 106 = .ok (.iadd, 1) := by decide +kernel
theorem d_MO_pack2_107 : decode b_MO_pack2 107 = .ok (.iaload, 1) := by decide +kernel
theorem d_MO_pack2_108 : decode b_MO_pack2 108 = .ok (.ifCond .eq 22, 3) := by decide +kernel
theorem d_MO_pack2_111 : decode b_MO_pack2 111 = .ok (.aload_n 0, 1) := by decide +kernel
theorem d_MO_pack2_112 : decode b_MO_pack2 112 = .ok (.getfield 37, 3) := by decide +kernel
theorem d_MO_pack2_115 : decode b_MO_pack2 115 = .ok (.sipush 256, 3) := by decide +kernel
theorem d_MO_pack2_118 : decode b_MO_pack2 118 = .ok (.iload 5, 2) := by decide +kernel
theorem d_MO_pack2_120 : decode b_MO_pack2 120 = .ok (.imul, 1) := by decide +kernel
theorem d_MO_pack2_121 : decode b_MO_pack2 121 = .ok (.iload 8, 2) := by decide +kernel
theorem d_MO_pack2_123 : decode b_MO_pack2 123 = .ok (.iadd, 1) := by decide +kernel
theorem d_MO_pack2_124 : decode b_MO_pack2 124 = .ok (.iaload, 1) := by decide +kernel
theorem d_MO_pack2_125 : decode b_MO_pack2 125 = .ok (.istore 5, 2) := by decide +kernel
theorem d_MO_pack2_127 : decode b_MO_pack2 127 = .ok (.goto 101, 3) := by decide +kernel
theorem d_MO_pack2_130 : decode b_MO_pack2 130 = .ok (.aload_n 0, 1) := by decide +kernel
theorem d_MO_pack2_131 : decode b_MO_pack2 131 = .ok (.iload 5, 2) := by decide +kernel
theorem d_MO_pack2_133 : decode b_MO_pack2 133 = .ok (.invokevirtual 106, 3) := by decide +kernel
theorem d_MO_pack2_136 : decode b_MO_pack2 136 = .ok (.iload 6, 2) := by decide +kernel
theorem d_MO_pack2_138 : decode b_MO_pack2 138 = .ok (.ifCond .eq 52, 3) := by decide +kernel
theorem d_MO_pack2_141 : decode b_MO_pack2 141 = .ok (.aload_n 0, 1) := by decide +kernel
theorem d_MO_pack2_142 : decode b_MO_pack2 142 = .ok (.iload_n 3, 1) := by decide +kernel
theorem d_MO_pack2_143 : decode b_MO_pack2 143 = .ok (.aload_n 0, 1) := by decide +kernel
theorem d_MO_pack2_144 : decode b_MO_pack2 144 = .ok (.getfield 89, 3) := by decide +kernel
theorem d_MO_pack2_147 : decode b_MO_pack2 147 = .ok (.invokevirtual 99, 3) := by decide +kernel
theorem d_MO_pack2_150 : decode b_MO_pack2 150 = .ok (.aload_n 0, 1) := by decide +kernel
theorem d_MO_pack2_151 : decode b_MO_pack2 151 = .ok (.iload_n 1, 1) := by decide +kernel
theorem d_MO_pack2_152 : decode b_MO_pack2 152 = .ok (.invokevirtual 103, 3) := by decide +kernel
theorem d_MO_pack2_155 : decode b_MO_pack2 155 = .ok (.iconst 0, 1) := by decide +kernel
theorem d_MO_pack2_156 : decode b_MO_pack2 156 = .ok (.istore 9, 2) := by decide +kernel
theorem d_MO_pack2_158 : decode b_MO_pack2 158 = .ok (.iload 9, 2) := by decide +kernel
theorem d_MO_pack2_160 : decode b_MO_pack2 160 = .ok (.ldc 36, 2) := by decide +kernel
theorem d_MO_pack2_162 : decode b_MO_pack2 162 = .ok (.if_icmp .ge 17, 3) := by decide +kernel
theorem d_MO_pack2_165 : decode b_MO_pack2 165 = .ok (.aload_n 0, 1) := by decide +kernel
theorem d_MO_pack2_166 : decode b_MO_pack2 166 = .ok (.getfield 37, 3) := by decide +kernel
theorem d_MO_pack2_169 : decode b_MO_pack2 169 = .ok (.iload 9, 2) := by decide +kernel
theorem d_MO_pack2_171 : decode b_MO_pack2 171 = .ok (.iconst 0, 1) := by decide +kernel
theorem d_MO_pack2_172 : decode b_MO_pack2 172 = .ok (.iastore, 1) := by decide +kernel
theorem d_MO_pack2_173 : decode b_MO_pack2 173 = .ok (.iinc 9 1, 3) := by decide +kernel
theorem d_MO_pack2_176 : decode b_MO_pack2 176 = .ok (.goto (-18), 3) := by decide +kernel
theorem d_MO_pack2_179 : decode b_MO_pack2 179 = .ok (.iload_n 3, 1) := by decide +kernel
theorem d_MO_pack2_180 : decode b_MO_pack2 180 = .ok (.iconst 2, 1) := by decide +kernel
theorem d_MO_pack2_181 : decode b_MO_pack2 181 = .ok (.iadd, 1) := by decide +kernel
theorem d_MO_pack2_182 : decode b_MO_pack2 182 = .ok (.istore 4, 2) := by decide +kernel
theorem d_MO_pack2_184 : decode b_MO_pack2 184 = .ok (.iconst 0, 1) := by decide +kernel
theorem d_MO_pack2_185 : decode b_MO_pack2 185 = .ok (.istore 6, 2) := by decide +kernel
theorem d_MO_pack2_187 : decode b_MO_pack2 187 = .ok (.goto 37, 3) := by decide +kernel
theorem d_MO_pack2_190 : decode b_MO_pack2 190 = .ok (.aload_n 0, 1) := by decide +kernel
theorem d_MO_pack2_191 : decode b_MO_pack2 191 = .ok (.getfield 37, 3) := by decide +kernel
theorem d_MO_pack2_194 : decode b_MO_pack2 194 = .ok (.sipush 256, 3) := by decide +kernel
theorem d_MO_pack2_197 : decode b_MO_pack2 197 = .ok (.iload 5, 2) := by decide +kernel
theorem d_MO_pack2_199 : decode b_MO_pack2 199 = .ok (.imul, 1) := by decide +kernel
theorem d_MO_pack2_200 : decode b_MO_pack2 200 = .ok (.iload 8, 2) := by decide +kernel
theorem d_MO_pack2_202 : decode b_MO_pack2 202 = .ok (.iadd, 1) := by decide +kernel
theorem d_MO_pack2_203 : decode b_MO_pack2 203 = .ok (.iload 4, 2) := by decide +kernel
theorem d_MO_pack2_205 : decode b_MO_pack2 205 = .ok (.iastore, 1) := by decide +kernel
theorem d_MO_pack2_206 : decode b_MO_pack2 206 = .ok (.iload 4, 2) := by decide +kernel
theorem d_MO_pack2_208 : decode b_MO_pack2 208 = .ok (.sipush 4095, 3) := by decide +kernel
theorem d_MO_pack2_211 : decode b_MO_pack2 211 = .ok (.if_icmp .ne 7, 3) := by decide +kernel
theorem d_MO_pack2_214 : decode b_MO_pack2 214 = .ok (.iconst 1, 1) := by decide +kernel
theorem d_MO_pack2_215 : decode b_MO_pack2 215 = .ok (.goto 4, 3) := by decide +kernel
theorem d_MO_pack2_218 : decode b_MO_pack2 218 = .ok (.iconst 0, 1) := by decide +kernel
theorem d_MO_pack2_219 : decode b_MO_pack2 219 = .ok (.istore 6, 2) := by decide +kernel
theorem d_MO_pack2_221 : decode b_MO_pack2 221 = .ok (.iinc 4 1, 3) := by decide +kernel
theorem d_MO_pack2_224 : decode b_MO_pack2 224 = .ok (.iload 8, 2) := by decide +kernel
theorem d_MO_pack2_226 : decode b_MO_pack2 226 = .ok (.istore 5, 2) := by decide +kernel
theorem d_MO_pack2_228 : decode b_MO_pack2 228 = .ok (.iinc 7 1, 3) := by decide +kernel
theorem d_MO_pack2_231 : decode b_MO_pack2 231 = .ok (.goto (-156), 3) := by decide +kernel
theorem d_MO_pack2_234 : decode b_MO_pack2 234 = .ok (.aload_n 0, 1) := by decide +kernel
theorem d_MO_pack2_235 : decode b_MO_pack2 235 = .ok (.iload 5, 2) := by decide +kernel
theorem d_MO_pack2_237 : decode b_MO_pack2 237 = .ok (.invokevirtual 106, 3) := by decide +kernel
theorem d_MO_pack2_240 : decode b_MO_pack2 240 = .ok (.iload 6, 2) := by decide +kernel
theorem d_MO_pack2_242 : decode b_MO_pack2 242 = .ok (.ifCond .eq 17, 3) := by decide +kernel
theorem d_MO_pack2_245 : decode b_MO_pack2 245 = .ok (.aload_n 0, 1) := by decide +kernel
theorem d_MO_pack2_246 : decode b_MO_pack2 246 = .ok (.iload_n 3, 1) := by decide +kernel
theorem d_MO_pack2_247 : decode b_MO_pack2 247 = .ok (.aload_n 0, 1) := by decide +kernel
theorem d_MO_pack2_248 : decode b_MO_pack2 248 = .ok (.getfield 89, 3) := by decide +kernel
theorem d_MO_pack2_251 : decode b_MO_pack2 251 = .ok (.invokevirtual 99, 3) := by decide +kernel
theorem d_MO_pack2_254 : decode b_MO_pack2 254 = .ok (.aload_n 0, 1) := by decide +kernel
theorem d_MO_pack2_255 : decode b_MO_pack2 255 = .ok (.iload_n 1, 1) := by decide +kernel
theorem d_MO_pack2_256 : decode b_MO_pack2 256 = .ok (.invokevirtual 103, 3) := by decide +kernel
theorem d_MO_pack2_259 : decode b_MO_pack2 259 = .ok (.aload_n 0, 1) := by decide +kernel
theorem d_MO_pack2_260 : decode b_MO_pack2 260 = .ok (.iload_n 3, 1) := by decide +kernel
theorem d_MO_pack2_261 : decode b_MO_pack2 261 = .ok (.iconst 1, 1) := by decide +kernel
theorem d_MO_pack2_262 : decode b_MO_pack2 262 = .ok (.iadd, 1) := by decide +kernel
theorem d_MO_pack2_263 : decode b_MO_pack2 263 = .ok (.aload_n 0, 1) := by decide +kernel
theorem d_MO_pack2_264 : decode b_MO_pack2 264 = .ok (.getfield 89, 3) := by decide +kernel
theorem d_MO_pack2_267 : decode b_MO_pack2 267 = .ok (.invokevirtual 99, 3) := by decide +kernel
theorem d_MO_pack2_270 : decode b_MO_pack2 270 = .ok (.aload_n 0, 1) := by decide +kernel
theorem d_MO_pack2_271 : decode b_MO_pack2 271 = .ok (.invokevirtual 83, 3) := by decide +kernel
theorem d_MO_pack2_274 : decode b_MO_pack2 274 = .ok (.return_, 1) := by decide +kernel
theorem d_MO_unpack_0 : decode b_MO_unpack 0 = .ok (.aload_n 0, 1) := by decide +kernel
theorem d_MO_unpack_1 : decode b_MO_unpack 1 = .ok (.iconst 0, 1) := by decide +kernel
theorem d_MO_unpack_2 : decode b_MO_unpack 2 = .ok (.putfield 40, 3) := by decide +kernel
theorem d_MO_unpack_5 : decode b_MO_unpack 5 = .ok (.iload_n 1, 1) := by decide +kernel
theorem d_MO_unpack_6 : decode b_MO_unpack 6 = .ok (.iconst 2, 1) := by decide +kernel
theorem d_MO_unpack_7 : decode b_MO_unpack 7 = .ok (.if_icmp .lt 9, 3) := by decide +kernel
theorem d_MO_unpack_10 : decode b_MO_unpack 10 = .ok (.iload_n 1, 1) := by decide +kernel
theorem d_MO_unpack_11 : decode b_MO_unpack 11 = .ok (.bipush 8, 2) := by decide +kernel
theorem d_MO_unpack_13 : decode b_MO_unpack 13 = .ok (.if_icmp .le 9, 3) := by decide +kernel
theorem d_MO_unpack_16 : decode b_MO_unpack 16 = .ok (.aload_n 0, 1) := by decide +kernel
theorem d_MO_unpack_17 : decode b_MO_unpack 17 = .ok (.iconst 1, 1) := by decide +kernel
theorem d_MO_unpack_18 : decode b_MO_unpack 18 = .ok (.invokevirtual 109, 3) := by decide +kernel
theorem d_MO_unpack_21 : decode b_MO_unpack 21 = .ok (.ireturn, 1) := by decide +kernel
theorem d_MO_unpack_22 : decode b_MO_unpack 22 = .ok (.iconst 0, 1) := by decide +kernel
theorem d_MO_unpack_23 : decode b_MO_unpack 23 = .ok (.istore_n 2, 1) := by decide +kernel
theorem d_MO_unpack_24 : decode b_MO_unpack 24 = .ok (.iload_n 2, 1) := by decide +kernel
theorem d_MO_unpack_25 : decode b_MO_unpack 25 = .ok (.aload_n 0, 1) := by decide +kernel
theorem d_MO_unpack_26 : decode b_MO_unpack 26 = .ok (.getfield 112, 3) := by decide +kernel
theorem d_MO_unpack_29 : decode b_MO_unpack 29 = .ok (.if_icmp .ge 21, 3) := by decide +kernel
theorem d_MO_unpack_32 : decode b_MO_unpack 32 = .ok (.aload_n 0, 1) := by decide +kernel
theorem d_MO_unpack_33 : decode b_MO_unpack 33 = .ok (.getfield 16, 3) := by decide +kernel
theorem d_MO_unpack_36 : decode b_MO_unpack 36 = .ok (.iload_n 2, 1) := by decide +kernel
theorem d_MO_unpack_37 : decode b_MO_unpack 37 = .ok (.aload_n 0, 1) := by decide +kernel
theorem d_MO_unpack_38 : decode b_MO_unpack 38 = .ok (.getfield 7, 3) := by decide +kernel
theorem d_MO_unpack_41 : decode b_MO_unpack 41 = .ok (.iload_n 2, 1) := by decide +kernel
theorem d_MO_unpack_42 : decode b_MO_unpack 42 = .ok (.baload, 1) := by decide +kernel
theorem d_MO_unpack_43 : decode b_MO_unpack 43 = .ok (.bastore, 1) := by decide +kernel
theorem d_MO_unpack_44 : decode b_MO_unpack 44 = .ok (.iinc 2 1, 3) := by decide +kernel
theorem d_MO_unpack_47 : decode b_MO_unpack 47 = .ok (.goto (-23), 3) := by decide +kernel
theorem d_MO_unpack_50 : decode b_MO_unpack 50 = .ok (.aload_n 0, 1) := by decide +kernel
theorem d_MO_unpack_51 : decode b_MO_unpack 51 = .ok (.aload_n 0, 1) := by decide +kernel
theorem d_MO_unpack_52 : decode b_MO_unpack 52 = .ok (.getfield 112, 3) := by decide +kernel
theorem d_MO_unpack_55 : decode b_MO_unpack 55 = .ok (.putfield 50, 3) := by decide +kernel
theorem d_MO_unpack_58 : decode b_MO_unpack 58 = .ok (.aload_n 0, 1) := by decide +kernel
theorem d_MO_unpack_59 : decode b_MO_unpack 59 = .ok (.iconst 0, 1) := by decide +kernel
theorem d_MO_unpack_60 : decode b_MO_unpack 60 = .ok (.putfield 112, 3) := by decide +kernel
theorem d_MO_unpack_63 : decode b_MO_unpack 63 = .ok (.aload_n 0, 1) := by decide +kernel
theorem d_MO_unpack_64 : decode b_MO_unpack 64 = .ok (.iconst 0, 1) := by decide +kernel
theorem d_MO_unpack_65 : decode b_MO_unpack 65 = .ok (.putfield 63, 3) := by decide +kernel
theorem d_MO_unpack_68 : decode b_MO_unpack 68 = .ok (.aload_n 0, 1) := by decide +kernel
theorem d_MO_unpack_69 : decode b_MO_unpack 69 = .ok (.iload_n 1, 1) := by decide +kernel
theorem d_MO_unpack_70 : decode b_MO_unpack 70 = .ok (.invokevirtual 115, 3) := by decide +kernel
theorem d_MO_unpack_73 : decode b_MO_unpack 73 = .ok (.goto 17, 3) := by decide +kernel
theorem d_MO_unpack_76 : decode b_MO_unpack 76 = .ok (.astore_n 2, 1) := by decide +kernel
theorem d_MO_unpack_77 : decode b_MO_unpack 77 = .ok (.aload_n 0, 1) := by decide +kernel
theorem d_MO_unpack_78 : decode b_MO_unpack 78 = .ok (.iconst 2, 1) := by decide +kernel
theorem d_MO_unpack_79 : decode b_MO_unpack 79 = .ok (.invokevirtual 109, 3) := by decide +kernel
theorem d_MO_unpack_82 : decode b_MO_unpack 82 = .ok (.ireturn, 1) := by decide +kernel
theorem d_MO_unpack_83 : decode b_MO_unpack 83 = .ok (.astore_n 2, 1) := by decide +kernel
theorem d_MO_unpack_84 : decode b_MO_unpack 84 = .ok (.aload_n 0, 1) := by decide +kernel
theorem d_MO_unpack_85 : decode b_MO_unpack 85 = .ok (.iconst 3, 1) := by decide +kernel
theorem d_MO_unpack_86 : decode b_MO_unpack 86 = .ok (.invokevirtual 109, 3) := by decide +kernel
theorem d_MO_unpack_89 : decode b_MO_unpack 89 = .ok (.ireturn, 1) := by decide +kernel
theorem d_MO_unpack_90 : decode b_MO_unpack 90 = .ok (.aload_n 0, 1) := by decide +kernel
theorem d_MO_unpack_91 : decode b_MO_unpack 91 = .ok (.aload_n 0, 1) := by decide +kernel
theorem d_MO_unpack_92 : decode b_MO_unpack 92 = .ok (.getfield 63, 3) := by decide +kernel
theorem d_MO_unpack_95 : decode b_MO_unpack 95 = .ok (.putfield 118, 3) := by decide +kernel
theorem d_MO_unpack_98 : decode b_MO_unpack 98 = .ok (.iconst 0, 1) := by decide +kernel
theorem d_MO_unpack_99 : decode b_MO_unpack 99 = .ok (.istore_n 2, 1) := by decide +kernel
theorem d_MO_unpack_100 : decode b_MO_unpack 100 = .ok (.iload_n 2, 1) := by decide +kernel
theorem d_MO_unpack_101 : decode b_MO_unpack 101 = .ok (.aload_n 0, 1) := by decide +kernel
theorem d_MO_unpack_102 : decode b_MO_unpack 102 = .ok (.getfield 118, 3) := by decide +kernel
theorem d_MO_unpack_105 : decode b_MO_unpack 105 = .ok (.if_icmp .ge 21, 3) := by decide +kernel
theorem d_MO_unpack_108 : decode b_MO_unpack 108 = .ok (.aload_n 0, 1) := by decide +kernel
theorem d_MO_unpack_109 : decode b_MO_unpack 109 = .ok (.getfield 13, 3) := by decide +kernel
theorem d_MO_unpack_112 : decode b_MO_unpack 112 = .ok (.iload_n 2, 1) := by decide +kernel
theorem d_MO_unpack_113 : decode b_MO_unpack 113 = .ok (.aload_n 0, 1) := by decide +kernel
theorem d_MO_unpack_114 : decode b_MO_unpack 114 = .ok (.getfield 19, 3) := by decide +kernel
theorem d_MO_unpack_117 : decode b_MO_unpack 117 = .ok (.iload_n 2, 1) := by decide +kernel
theorem d_MO_unpack_118 : decode b_MO_unpack 118 = .ok (.baload, 1) := by decide +kernel
theorem d_MO_unpack_119 : decode b_MO_unpack 119 = .ok (.bastore, 1) := by decide +kernel
theorem d_MO_unpack_120 : decode b_MO_unpack 120 = .ok (.iinc 2 1, 3) := by decide +kernel
theorem d_MO_unpack_123 : decode b_MO_unpack 123 = .ok (.goto (-23), 3) := by decide +kernel
theorem d_MO_unpack_126 : decode b_MO_unpack 126 = .ok (.aload_n 0, 1) := by decide +kernel
theorem d_MO_unpack_127 : decode b_MO_unpack 127 = .ok (.getfield 118, 3) := by decide +kernel
theorem d_MO_unpack_130 : decode b_MO_unpack 130 = .ok (.ireturn, 1) := by decide +kernel
theorem d_MO_pack1_0 : decode b_MO_pack1 0 = .ok (.aload_n 0, 1) := by decide +kernel
theorem d_MO_pack1_1 : decode b_MO_pack1 1 = .ok (.iconst 0, 1) := by decide +kernel
theorem d_MO_pack1_2 : decode b_MO_pack1 2 = .ok (.putfield 40, 3) := by decide +kernel
theorem d_MO_pack1_5 : decode b_MO_pack1 5 = .ok (.iload_n 1, 1) := by decide +kernel
theorem d_MO_pack1_6 : decode b_MO_pack1 6 = .ok (.iconst 2, 1) := by decide +kernel
theorem d_MO_pack1_7 : decode b_MO_pack1 7 = .ok (.if_icmp .lt 9, 3) := by decide +kernel
theorem d_MO_pack1_10 : decode b_MO_pack1 10 = .ok (.iload_n 1, 1) := by decide +kernel
theorem d_MO_pack1_11 : decode b_MO_pack1 11 = .ok (.bipush 8, 2) := by decide +kernel
theorem d_MO_pack1_13 : decode b_MO_pack1 13 = .ok (.if_icmp .le 9, 3) := by decide +kernel
theorem d_MO_pack1_16 : decode b_MO_pack1 16 = .ok (.aload_n 0, 1) := by decide +kernel
theorem d_MO_pack1_17 : decode b_MO_pack1 17 = .ok (.iconst 1, 1) := by decide +kernel
theorem d_MO_pack1_18 : decode b_MO_pack1 18 = .ok (.invokevirtual 109, 3) := by decide +kernel
theorem d_MO_pack1_21 : decode b_MO_pack1 21 = .ok (.ireturn, 1) := by decide +kernel
theorem d_MO_pack1_22 : decode b_MO_pack1 22 = .ok (.aload_n 0, 1) := by decide +kernel
theorem d_MO_pack1_23 : decode b_MO_pack1 23 = .ok (.getfield 112, 3) := by decide +kernel
theorem d_MO_pack1_26 : decode b_MO_pack1 26 = .ok (.ifCond .ne 9, 3) := by decide +kernel
theorem d_MO_pack1_29 : decode b_MO_pack1 29 = .ok (.aload_n 0, 1) := by decide +kernel
theorem d_MO_pack1_30 : decode b_MO_pack1 30 = .ok (.iconst 2, 1) := by decide +kernel
theorem d_MO_pack1_31 : decode b_MO_pack1 31 = .ok (.invokevirtual 109, 3) := by decide +kernel
theorem d_MO_pack1_34 : decode b_MO_pack1 34 = .ok (.ireturn, 1) := by decide +kernel
theorem d_MO_pack1_35 : decode b_MO_pack1 35 = .ok (.iconst 0, 1) := by decide +kernel
theorem d_MO_pack1_36 : decode b_MO_pack1 36 = .ok (.istore_n 2, 1) := by decide +kernel
theorem d_MO_pack1_37 : decode b_MO_pack1 37 = .ok (.iload_n 2, 1) := by decide +kernel
theorem d_MO_pack1_38 : decode b_MO_pack1 38 = .ok (.aload_n 0, 1) := by decide +kernel
theorem d_MO_pack1_39 : decode b_MO_pack1 39 = .ok (.getfield 112, 3) := by decide +kernel
theorem d_MO_pack1_42 : decode b_MO_pack1 42 = .ok (.if_icmp .ge 43, 3) := by decide +kernel
theorem d_MO_pack1_45 : decode b_MO_pack1 45 = .ok (.aload_n 0, 1) := by decide +kernel
theorem d_MO_pack1_46 : decode b_MO_pack1 46 = .ok (.getfield 7, 3) := by decide +kernel
theorem d_MO_pack1_49 : decode b_MO_pack1 49 = .ok (.iload_n 2, 1) := by decide +kernel
theorem d_MO_pack1_50 : decode b_MO_pack1 50 = .ok (.baload, 1) := by decide +kernel
theorem d_MO_pack1_51 : decode b_MO_pack1 51 = .ok (.sipush 255, 3) := by decide +kernel
theorem d_MO_pack1_54 : decode b_MO_pack1 54 = .ok (.iand, 1) := by decide +kernel
theorem d_MO_pack1_55 : decode b_MO_pack1 55 = .ok (.iconst 1, 1) := by decide +kernel
theorem d_MO_pack1_56 : decode b_MO_pack1 56 = .ok (.iload_n 1, 1) := by decide +kernel
theorem d_MO_pack1_57 : decode b_MO_pack1 57 = .ok (.ishl, 1) := by decide +kernel
theorem d_MO_pack1_58 : decode b_MO_pack1 58 = .ok (.if_icmp .lt 9, 3) := by decide +kernel
theorem d_MO_pack1_61 : decode b_MO_pack1 61 = .ok (.aload_n 0, 1) := by decide +kernel
theorem d_MO_pack1_62 : decode b_MO_pack1 62 = .ok (.iconst 2, 1) := by decide +kernel
theorem d_MO_pack1_63 : decode b_MO_pack1 63 = .ok (.invokevirtual 109, 3) := by decide +kernel
theorem d_MO_pack1_66 : decode b_MO_pack1 66 = .ok (.ireturn, 1) := by decide +kernel
theorem d_MO_pack1_67 : decode b_MO_pack1 67 = .ok (.aload_n 0, 1) := by decide +kernel
theorem d_MO_pack1_68 : decode b_MO_pack1 68 = .ok (.getfield 19, 3) := by decide +kernel
theorem d_MO_pack1_71 : decode b_MO_pack1 71 = .ok (.iload_n 2, 1) := by decide +kernel
theorem d_MO_pack1_72 : decode b_MO_pack1 72 = .ok (.aload_n 0, 1) := by decide +kernel
theorem d_MO_pack1_73 : decode b_MO_pack1 73 = .ok (.getfield 7, 3) := by decide +kernel
theorem d_MO_pack1_76 : decode b_MO_pack1 76 = .ok (.iload_n 2, 1) := by decide +kernel
theorem d_MO_pack1_77 : decode b_MO_pack1 77 = .ok (.baload, 1) := by decide +kernel
theorem d_MO_pack1_78 : decode b_MO_pack1 78 = .ok (.bastore, 1) := by decide +kernel
theorem d_MO_pack1_79 : decode b_MO_pack1 79 = .ok (.iinc 2 1, 3) := by decide +kernel
theorem d_MO_pack1_82 : decode b_MO_pack1 82 = .ok (.goto (-45), 3) := by decide +kernel
theorem d_MO_pack1_85 : decode b_MO_pack1 85 = .ok (.aload_n 0, 1) := by decide +kernel
theorem d_MO_pack1_86 : decode b_MO_pack1 86 = .ok (.iconst 0, 1) := by decide +kernel
theorem d_MO_pack1_87 : decode b_MO_pack1 87 = .ok (.putfield 57, 3) := by decide +kernel
theorem d_MO_pack1_90 : decode b_MO_pack1 90 = .ok (.aload_n 0, 1) := by decide +kernel
theorem d_MO_pack1_91 : decode b_MO_pack1 91 = .ok (.iload_n 1, 1) := by decide +kernel
theorem d_MO_pack1_92 : decode b_MO_pack1 92 = .ok (.aload_n 0, 1) := by decide +kernel
theorem d_MO_pack1_93 : decode b_MO_pack1 93 = .ok (.getfield 112, 3) := by decide +kernel
theorem d_MO_pack1_96 : decode b_MO_pack1 96 = .ok (.invokevirtual 121, 3) := by decide +kernel
theorem d_MO_pack1_99 : decode b_MO_pack1 99 = .ok (.aload_n 0, 1) := by decide +kernel
theorem d_MO_pack1_100 : decode b_MO_pack1 100 = .ok (.getfield 57, 3) := by decide +kernel
theorem d_MO_pack1_103 : decode b_MO_pack1 103 = .ok (.sipush 16384, 3) := by decide +kernel
theorem d_MO_pack1_106 : decode b_MO_pack1 106 = .ok (.if_icmp .le 9, 3) := by decide +kernel
theorem d_MO_pack1_109 : decode b_MO_pack1 109 = .ok (.aload_n 0, 1) := by decide +kernel
theorem d_MO_pack1_110 : decode b_MO_pack1 110 = .ok (.iconst 3, 1) := by decide +kernel
theorem d_MO_pack1_111 : decode b_MO_pack1 111 = .ok (.invokevirtual 109, 3) := by decide +kernel
theorem d_MO_pack1_114 : decode b_MO_pack1 114 = .ok (.ireturn, 1) := by decide +kernel
theorem d_MO_pack1_115 : decode b_MO_pack1 115 = .ok (.aload_n 0, 1) := by decide +kernel
theorem d_MO_pack1_116 : decode b_MO_pack1 116 = .ok (.aload_n 0, 1) := by decide +kernel
theorem d_MO_pack1_117 : decode b_MO_pack1 117 = .ok (.getfield 57, 3) := by decide +kernel
theorem d_MO_pack1_120 : decode b_MO_pack1 120 = .ok (.putfield 118, 3) := by decide +kernel
theorem d_MO_pack1_123 : decode b_MO_pack1 123 = .ok (.iconst 0, 1) := by decide +kernel
theorem d_MO_pack1_124 : decode b_MO_pack1 124 = .ok (.istore_n 2, 1) := by decide +kernel
theorem d_MO_pack1_125 : decode b_MO_pack1 125 = .ok (.iload_n 2, 1) := by decide +kernel
theorem d_MO_pack1_126 : decode b_MO_pack1 126 = .ok (.aload_n 0, 1) := by decide +kernel
theorem d_MO_pack1_127 : decode b_MO_pack1 127 = .ok (.getfield 118, 3) := by decide +kernel
theorem d_MO_pack1_130 : decode b_MO_pack1 130 = .ok (.if_icmp .ge 21, 3) := by decide +kernel
theorem d_MO_pack1_133 : decode b_MO_pack1 133 = .ok (.aload_n 0, 1) := by decide +kernel
theorem d_MO_pack1_134 : decode b_MO_pack1 134 = .ok (.getfield 13, 3) := by decide +kernel
theorem d_MO_pack1_137 : decode b_MO_pack1 137 = .ok (.iload_n 2, 1) := by decide +kernel
theorem d_MO_pack1_138 : decode b_MO_pack1 138 = .ok (.aload_n 0, 1) := by decide +kernel
theorem d_MO_pack1_139 : decode b_MO_pack1 139 = .ok (.getfield 23, 3) := by decide +kernel
theorem d_MO_pack1_142 : decode b_MO_pack1 142 = .ok (.iload_n 2, 1) := by decide +kernel
theorem d_MO_pack1_143 : decode b_MO_pack1 143 = .ok (.baload, 1) := by decide +kernel
theorem d_MO_pack1_144 : decode b_MO_pack1 144 = .ok (.bastore, 1) := by decide +kernel
theorem d_MO_pack1_145 : decode b_MO_pack1 145 = .ok (.iinc 2 1, 3) := by decide +kernel
theorem d_MO_pack1_148 : decode b_MO_pack1 148 = .ok (.goto (-23), 3) := by decide +kernel
theorem d_MO_pack1_151 : decode b_MO_pack1 151 = .ok (.aload_n 0, 1) := by decide +kernel
theorem d_MO_pack1_152 : decode b_MO_pack1 152 = .ok (.getfield 118, 3) := by decide +kernel
theorem d_MO_pack1_155 : decode b_MO_pack1 155 = .ok (.ireturn, 1) := by decide +kernel
theorem d_MO_mask_0 : decode b_MO_mask 0 = .ok (.aload_n 0, 1) := by decide +kernel
theorem d_MO_mask_1 : decode b_MO_mask 1 = .ok (.iconst 0, 1) := by decide +kernel
theorem d_MO_mask_2 : decode b_MO_mask 2 = .ok (.putfield 40, 3) := by decide +kernel
theorem d_MO_mask_5 : decode b_MO_mask 5 = .ok (.iload_n 1, 1) := by decide +kernel
theorem d_MO_mask_6 : decode b_MO_mask 6 = .ok (.iconst 2, 1) := by decide +kernel
theorem d_MO_mask_7 : decode b_MO_mask 7 = .ok (.if_icmp .lt 9, 3) := by decide +kernel
theorem d_MO_mask_10 : decode b_MO_mask 10 = .ok (.iload_n 1, 1) := by decide +kernel
theorem d_MO_mask_11 : decode b_MO_mask 11 = .ok (.bipush 8, 2) := by decide +kernel
theorem d_MO_mask_13 : decode b_MO_mask 13 = .ok (.if_icmp .le 11, 3) := by decide +kernel
theorem d_MO_mask_16 : decode b_MO_mask 16 = .ok (.aload_n 0, 1) := by decide +kernel
theorem d_MO_mask_17 : decode b_MO_mask 17 = .ok (.iconst 1, 1) := by decide +kernel
theorem d_MO_mask_18 : decode b_MO_mask 18 = .ok (.putfield 40, 3) := by decide +kernel
theorem d_MO_mask_21 : decode b_MO_mask 21 = .ok (.goto 38, 3) := by decide +kernel
theorem d_MO_mask_24 : decode b_MO_mask 24 = .ok (.iconst 0, 1) := by decide +kernel
theorem d_MO_mask_25 : decode b_MO_mask 25 = .ok (.istore_n 2, 1) := by decide +kernel
theorem d_MO_mask_26 : decode b_MO_mask 26 = .ok (.iload_n 2, 1) := by decide +kernel
theorem d_MO_mask_27 : decode b_MO_mask 27 = .ok (.aload_n 0, 1) := by decide +kernel
theorem d_MO_mask_28 : decode b_MO_mask 28 = .ok (.getfield 112, 3) := by decide +kernel
theorem d_MO_mask_31 : decode b_MO_mask 31 = .ok (.if_icmp .ge 28, 3) := by decide +kernel
theorem d_MO_mask_34 : decode b_MO_mask 34 = .ok (.aload_n 0, 1) := by decide +kernel
theorem d_MO_mask_35 : decode b_MO_mask 35 = .ok (.getfield 7, 3) := by decide +kernel
theorem d_MO_mask_38 : decode b_MO_mask 38 = .ok (.iload_n 2, 1) := by decide +kernel
theorem d_MO_mask_39 : decode b_MO_mask 39 = .ok (.aload_n 0, 1) := by decide +kernel
theorem d_MO_mask_40 : decode b_MO_mask 40 = .ok (.getfield 7, 3) := by decide +kernel
theorem d_MO_mask_43 : decode b_MO_mask 43 = .ok (.iload_n 2, 1) := by decide +kernel
theorem d_MO_mask_44 : decode b_MO_mask 44 = .ok (.baload, 1) := by decide +kernel
theorem d_MO_mask_45 : decode b_MO_mask 45 = .ok (.iconst 1, 1) := by decide +kernel
theorem d_MO_mask_46 : decode b_MO_mask 46 = .ok (.iload_n 1, 1) := by decide +kernel
theorem d_MO_mask_47 : decode b_MO_mask 47 = .ok (.ishl, 1) := by decide +kernel
theorem d_MO_mask_48 : decode b_MO_mask 48 = .ok (.iconst 1, 1) := by decide +kernel
theorem d_MO_mask_49 : decode b_MO_mask 49 = .ok (.isub, 1) := by decide +kernel
theorem d_MO_mask_50 : decode b_MO_mask 50 = .ok (.iand, 1) := by decide +kernel
theorem d_MO_mask_51 : decode b_MO_mask 51 = .ok (.i2b, 1) := by decide +kernel
theorem d_MO_mask_52 : decode b_MO_mask 52 = .ok (.bastore, 1) := by decide +kernel
theorem d_MO_mask_53 : decode b_MO_mask 53 = .ok (.iinc 2 1, 3) := by decide +kernel
theorem d_MO_mask_56 : decode b_MO_mask 56 = .ok (.goto (-30), 3) := by decide +kernel
theorem d_MO_mask_59 : decode b_MO_mask 59 = .ok (.return_, 1) := by decide +kernel
theorem d_MO_feed_0 : decode b_MO_feed 0 = .ok (.aload_n 0, 1) := by decide +kernel
theorem d_MO_feed_1 : decode b_MO_feed 1 = .ok (.iconst 0, 1) := by decide +kernel
theorem d_MO_feed_2 : decode b_MO_feed 2 = .ok (.putfield 40, 3) := by decide +kernel
theorem d_MO_feed_5 : decode b_MO_feed 5 = .ok (.aload_n 0, 1) := by decide +kernel
theorem d_MO_feed_6 : decode b_MO_feed 6 = .ok (.getfield 112, 3) := by decide +kernel
theorem d_MO_feed_9 : decode b_MO_feed 9 = .ok (.bipush 20, 2) := by decide +kernel
theorem d_MO_feed_11 : decode b_MO_feed 11 = .ok (.iadd, 1) := by decide +kernel
theorem d_MO_feed_12 : decode b_MO_feed 12 = .ok (.sipush 16384, 3) := by decide +kernel
theorem d_MO_feed_15 : decode b_MO_feed 15 = .ok (.if_icmp .le 9, 3) := by decide +kernel
theorem d_MO_feed_18 : decode b_MO_feed 18 = .ok (.aload_n 0, 1) := by decide +kernel
theorem d_MO_feed_19 : decode b_MO_feed 19 = .ok (.iconst 1, 1) := by decide +kernel
theorem d_MO_feed_20 : decode b_MO_feed 20 = .ok (.invokevirtual 109, 3) := by decide +kernel
theorem d_MO_feed_23 : decode b_MO_feed 23 = .ok (.ireturn, 1) := by decide +kernel
theorem d_MO_feed_24 : decode b_MO_feed 24 = .ok (.iconst 0, 1) := by decide +kernel
theorem d_MO_feed_25 : decode b_MO_feed 25 = .ok (.istore 6, 2) := by decide +kernel
theorem d_MO_feed_27 : decode b_MO_feed 27 = .ok (.iload 6, 2) := by decide +kernel
theorem d_MO_feed_29 : decode b_MO_feed 29 = .ok (.bipush 20, 2) := by decide +kernel
theorem d_MO_feed_31 : decode b_MO_feed 31 = .ok (.if_icmp .ge 90, 3) := by decide +kernel
theorem d_MO_feed_34 : decode b_MO_feed 34 = .ok (.iload 6, 2) := by decide +kernel
theorem d_MO_feed_36 : decode b_MO_feed 36 = .ok (.iconst 4, 1) := by decide +kernel
theorem d_MO_feed_37 : decode b_MO_feed 37 = .ok (.if_icmp .ge 7, 3) := by decide +kernel
theorem d_MO_feed_40 : decode b_MO_feed 40 = .ok (.iload_n 1, 1) := by decide +kernel
theorem d_MO_feed_41 : decode b_MO_feed 41 = .ok (.goto 39, 3) := by decide +kernel
theorem d_MO_feed_44 : decode b_MO_feed 44 = .ok (.iload 6, 2) := by decide +kernel
theorem d_MO_feed_46 : decode b_MO_feed 46 = .ok (.bipush 8, 2) := by decide +kernel
theorem d_MO_feed_48 : decode b_MO_feed 48 = .ok (.if_icmp .ge 7, 3) := by decide +kernel
theorem d_MO_feed_51 : decode b_MO_feed 51 = .ok (.iload_n 2, 1) := by decide +kernel
theorem d_MO_feed_52 : decode b_MO_feed 52 = .ok (.goto 28, 3) := by decide +kernel
theorem d_MO_feed_55 : decode b_MO_feed 55 = .ok (.iload 6, 2) := by decide +kernel
theorem d_MO_feed_57 : decode b_MO_feed 57 = .ok (.bipush 12, 2) := by decide +kernel
theorem d_MO_feed_59 : decode b_MO_feed 59 = .ok (.if_icmp .ge 7, 3) := by decide +kernel
theorem d_MO_feed_62 : decode b_MO_feed 62 = .ok (.iload_n 3, 1) := by decide +kernel
theorem d_MO_feed_63 : decode b_MO_feed 63 = .ok (.goto 17, 3) := by decide +kernel
theorem d_MO_feed_66 : decode b_MO_feed 66 = .ok (.iload 6, 2) := by decide +kernel
theorem d_MO_feed_68 : decode b_MO_feed 68 = .ok (.bipush 16, 2) := by decide +kernel
theorem d_MO_feed_70 : decode b_MO_feed 70 = .ok (.if_icmp .ge 8, 3) := by decide +kernel
theorem d_MO_feed_73 : decode b_MO_feed 73 = .ok (.iload 4, 2) := by decide +kernel
theorem d_MO_feed_75 : decode b_MO_feed 75 = .ok (.goto 5, 3) := by decide +kernel
theorem d_MO_feed_78 : decode b_MO_feed 78 = .ok (.iload 5, 2) := by decide +kernel
theorem d_MO_feed_80 : decode b_MO_feed 80 = .ok (.istore 7, 2) := by decide +kernel
theorem d_MO_feed_82 : decode b_MO_feed 82 = .ok (.aload_n 0, 1) := by decide +kernel
theorem d_MO_feed_83 : decode b_MO_feed 83 = .ok (.getfield 7, 3) := by decide +kernel
theorem d_MO_feed_86 : decode b_MO_feed 86 = .ok (.aload_n 0, 1) := by decide +kernel
theorem d_MO_feed_87 : decode b_MO_feed 87 = .ok (.getfield 112, 3) := by decide +kernel
theorem d_MO_feed_90 : decode b_MO_feed 90 = .ok (.iload 7, 2) := by decide +kernel
theorem d_MO_feed_92 : decode b_MO_feed 92 = .ok (.bipush 24, 2) := by decide +kernel
theorem d_MO_feed_94 : decode b_MO_feed 94 = .ok (.bipush 8, 2) := by decide +kernel
theorem d_MO_feed_96 : decode b_MO_feed 96 = .ok (.iload 6, 2) := by decide +kernel
theorem d_MO_feed_98 : decode b_MO_feed 98 = .ok (.iconst 4, 1) := by decide +kernel
theorem d_MO_feed_99 : decode b_MO_feed 99 = .ok (.irem, 1) := by decide +kernel
theorem d_MO_feed_100 : decode b_MO_feed 100 = .ok (.imul, 1) := by decide +kernel
theorem d_MO_feed_101 : decode b_MO_feed 101 = .ok (.isub, 1) := by decide +kernel
theorem d_MO_feed_102 : decode b_MO_feed 102 = .ok (.ishr, 1) := by decide +kernel
theorem d_MO_feed_103 : decode b_MO_feed 103 = .ok (.i2b, 1) := by decide +kernel
theorem d_MO_feed_104 : decode b_MO_feed 104 = .ok (.bastore, 1) := by decide +kernel
theorem d_MO_feed_105 : decode b_MO_feed 105 = .ok (.aload_n 0, 1) := by decide +kernel
theorem d_MO_feed_106 : decode b_MO_feed 106 = .ok (.dup, 1) := by decide +kernel
theorem d_MO_feed_107 : decode b_MO_feed 107 = .ok (.getfield 112, 3) := by decide +kernel
theorem d_MO_feed_110 : decode b_MO_feed 110 = .ok (.iconst 1, 1) := by decide +kernel
theorem d_MO_feed_111 : decode b_MO_feed 111 = .ok (.iadd, 1) := by decide +kernel
theorem d_MO_feed_112 : decode b_MO_feed 112 = .ok (.putfield 112, 3) := by decide +kernel
theorem d_MO_feed_115 : decode b_MO_feed 115 = .ok (.iinc 6 1, 3) := by decide +kernel
theorem d_MO_feed_118 : decode b_MO_feed 118 = .ok (.goto (-91), 3) := by decide +kernel
theorem d_MO_feed_121 : decode b_MO_feed 121 = .ok (.aload_n 0, 1) := by decide +kernel
theorem d_MO_feed_122 : decode b_MO_feed 122 = .ok (.getfield 112, 3) := by decide +kernel
theorem d_MO_feed_125 : decode b_MO_feed 125 = .ok (.ireturn, 1) := by decide +kernel
theorem d_MO_end_0 : decode b_MO_end 0 = .ok (.aload_n 0, 1) := by decide +kernel
theorem d_MO_end_1 : decode b_MO_end 1 = .ok (.iconst 0, 1) := by decide +kernel
theorem d_MO_end_2 : decode b_MO_end 2 = .ok (.putfield 40, 3) := by decide +kernel
theorem d_MO_end_5 : decode b_MO_end 5 = .ok (.iload_n 1, 1) := by decide +kernel
theorem d_MO_end_6 : decode b_MO_end 6 = .ok (.ifCond .lt 11, 3) := by decide +kernel
theorem d_MO_end_9 : decode b_MO_end 9 = .ok (.iload_n 1, 1) := by decide +kernel
theorem d_MO_end_10 : decode b_MO_end 10 = .ok (.aload_n 0, 1) := by decide +kernel
theorem d_MO_end_11 : decode b_MO_end 11 = .ok (.getfield 112, 3) := by decide +kernel
theorem d_MO_end_14 : decode b_MO_end 14 = .ok (.if_icmp .le 9, 3) := by decide +kernel
theorem d_MO_end_17 : decode b_MO_end 17 = .ok (.aload_n 0, 1) := by decide +kernel
theorem d_MO_end_18 : decode b_MO_end 18 = .ok (.iconst 1, 1) := by decide +kernel
theorem d_MO_end_19 : decode b_MO_end 19 = .ok (.invokevirtual 109, 3) := by decide +kernel
theorem d_MO_end_22 : decode b_MO_end 22 = .ok (.ireturn, 1) := by decide +kernel
theorem d_MO_end_23 : decode b_MO_end 23 = .ok (.aload_n 0, 1) := by decide +kernel
theorem d_MO_end_24 : decode b_MO_end 24 = .ok (.iload_n 1, 1) := by decide +kernel
theorem d_MO_end_25 : decode b_MO_end 25 = .ok (.putfield 112, 3) := by decide +kernel
theorem d_MO_end_28 : decode b_MO_end 28 = .ok (.iload_n 1, 1) := by decide +kernel
theorem d_MO_end_29 : decode b_MO_end 29 = .ok (.ireturn, 1) := by decide +kernel
theorem d_MO_again_0 : decode b_MO_again 0 = .ok (.aload_n 0, 1) := by decide +kernel
theorem d_MO_again_1 : decode b_MO_again 1 = .ok (.iconst 0, 1) := by decide +kernel
theorem d_MO_again_2 : decode b_MO_again 2 = .ok (.putfield 40, 3) := by decide +kernel
theorem d_MO_again_5 : decode b_MO_again 5 = .ok (.iconst 0, 1) := by decide +kernel
theorem d_MO_again_6 : decode b_MO_again 6 = .ok (.istore_n 1, 1) := by decide +kernel
theorem d_MO_again_7 : decode b_MO_again 7 = .ok (.iload_n 1, 1) := by decide +kernel
theorem d_MO_again_8 : decode b_MO_again 8 = .ok (.aload_n 0, 1) := by decide +kernel
theorem d_MO_again_9 : decode b_MO_again 9 = .ok (.getfield 118, 3) := by decide +kernel
theorem d_MO_again_12 : decode b_MO_again 12 = .ok (.if_icmp .ge 21, 3) := by decide +kernel
theorem d_MO_again_15 : decode b_MO_again 15 = .ok (.aload_n 0, 1) := by decide +kernel
theorem d_MO_again_16 : decode b_MO_again 16 = .ok (.getfield 7, 3) := by decide +kernel
theorem d_MO_again_19 : decode b_MO_again 19 = .ok (.iload_n 1, 1) := by decide +kernel
theorem d_MO_again_20 : decode b_MO_again 20 = .ok (.aload_n 0, 1) := by decide +kernel
theorem d_MO_again_21 : decode b_MO_again 21 = .ok (.getfield 13, 3) := by decide +kernel
theorem d_MO_again_24 : decode b_MO_again 24 = .ok (.iload_n 1, 1) := by decide +kernel
theorem d_MO_again_25 : decode b_MO_again 25 = .ok (.baload, 1) := by decide +kernel
theorem d_MO_again_26 : decode b_MO_again 26 = .ok (.bastore, 1) := by decide +kernel
theorem d_MO_again_27 : decode b_MO_again 27 = .ok (.iinc 1 1, 3) := by decide +kernel
theorem d_MO_again_30 : decode b_MO_again 30 = .ok (.goto (-23), 3) := by decide +kernel
theorem d_MO_again_33 : decode b_MO_again 33 = .ok (.aload_n 0, 1) := by decide +kernel
theorem d_MO_again_34 : decode b_MO_again 34 = .ok (.aload_n 0, 1) := by decide +kernel
theorem d_MO_again_35 : decode b_MO_again 35 = .ok (.getfield 118, 3) := by decide +kernel
theorem d_MO_again_38 : decode b_MO_again 38 = .ok (.putfield 112, 3) := by decide +kernel
theorem d_MO_again_41 : decode b_MO_again 41 = .ok (.aload_n 0, 1) := by decide +kernel
theorem d_MO_again_42 : decode b_MO_again 42 = .ok (.getfield 112, 3) := by decide +kernel
theorem d_MO_again_45 : decode b_MO_again 45 = .ok (.ireturn, 1) := by decide +kernel
theorem d_MO_word_0 : decode b_MO_word 0 = .ok (.aload_n 0, 1) := by decide +kernel
theorem d_MO_word_1 : decode b_MO_word 1 = .ok (.iconst 0, 1) := by decide +kernel
theorem d_MO_word_2 : decode b_MO_word 2 = .ok (.putfield 40, 3) := by decide +kernel
theorem d_MO_word_5 : decode b_MO_word 5 = .ok (.iload_n 1, 1) := by decide +kernel
theorem d_MO_word_6 : decode b_MO_word 6 = .ok (.ifCond .lt 11, 3) := by decide +kernel
theorem d_MO_word_9 : decode b_MO_word 9 = .ok (.iload_n 1, 1) := by decide +kernel
theorem d_MO_word_10 : decode b_MO_word 10 = .ok (.aload_n 0, 1) := by decide +kernel
theorem d_MO_word_11 : decode b_MO_word 11 = .ok (.getfield 118, 3) := by decide +kernel
theorem d_MO_word_14 : decode b_MO_word 14 = .ok (.if_icmp .lt 10, 3) := by decide +kernel
theorem d_MO_word_17 : decode b_MO_word 17 = .ok (.aload_n 0, 1) := by decide +kernel
theorem d_MO_word_18 : decode b_MO_word 18 = .ok (.iconst 1, 1) := by decide +kernel
theorem d_MO_word_19 : decode b_MO_word 19 = .ok (.invokevirtual 109, 3) := by decide +kernel
theorem d_MO_word_22 : decode b_MO_word 22 = .ok (.i2l, 1) := by decide +kernel
theorem d_MO_word_23 : decode b_MO_word 23 = .ok (.lreturn, 1) := by decide +kernel
theorem d_MO_word_24 : decode b_MO_word 24 = .ok (.lconst 0, 1) := by decide +kernel
theorem d_MO_word_25 : decode b_MO_word 25 = .ok (.lstore_n 2, 1) := by decide +kernel
theorem d_MO_word_26 : decode b_MO_word 26 = .ok (.iload_n 1, 1) := by decide +kernel
theorem d_MO_word_27 : decode b_MO_word 27 = .ok (.istore 4, 2) := by decide +kernel
theorem d_MO_word_29 : decode b_MO_word 29 = .ok (.iload 4, 2) := by decide +kernel
theorem d_MO_word_31 : decode b_MO_word 31 = .ok (.iload_n 1, 1) := by decide +kernel
theorem d_MO_word_32 : decode b_MO_word 32 = .ok (.bipush 8, 2) := by decide +kernel
theorem d_MO_word_34 : decode b_MO_word 34 = .ok (.iadd, 1) := by decide +kernel
theorem d_MO_word_35 : decode b_MO_word 35 = .ok (.if_icmp .ge 41, 3) := by decide +kernel
theorem d_MO_word_38 : decode b_MO_word 38 = .ok (.lload_n 2, 1) := by decide +kernel
theorem d_MO_word_39 : decode b_MO_word 39 = .ok (.ldc2_w 124, 3) := by decide +kernel
theorem d_MO_word_42 : decode b_MO_word 42 = .ok (.lmul, 1) := by decide +kernel
theorem d_MO_word_43 : decode b_MO_word 43 = .ok (.iload 4, 2) := by decide +kernel
theorem d_MO_word_45 : decode b_MO_word 45 = .ok (.aload_n 0, 1) := by decide +kernel
theorem d_MO_word_46 : decode b_MO_word 46 = .ok (.getfield 118, 3) := by decide +kernel
theorem d_MO_word_49 : decode b_MO_word 49 = .ok (.if_icmp .ge 17, 3) := by decide +kernel
theorem d_MO_word_52 : decode b_MO_word 52 = .ok (.aload_n 0, 1) := by decide +kernel
theorem d_MO_word_53 : decode b_MO_word 53 = .ok (.getfield 13, 3) := by decide +kernel
theorem d_MO_word_56 : decode b_MO_word 56 = .ok (.iload 4, 2) := by decide +kernel
theorem d_MO_word_58 : decode b_MO_word 58 = .ok (.baload, 1) := by decide +kernel
theorem d_MO_word_59 : decode b_MO_word 59 = .ok (.sipush 255, 3) := by decide +kernel
theorem d_MO_word_62 : decode b_MO_word 62 = .ok (.iand, 1) := by decide +kernel
theorem d_MO_word_63 : decode b_MO_word 63 = .ok (.goto 4, 3) := by decide +kernel
theorem d_MO_word_66 : decode b_MO_word 66 = .ok (.iconst 0, 1) := by decide +kernel
theorem d_MO_word_67 : decode b_MO_word 67 = .ok (.i2l, 1) := by decide +kernel
theorem d_MO_word_68 : decode b_MO_word 68 = .ok (.ladd, 1) := by decide +kernel
theorem d_MO_word_69 : decode b_MO_word 69 = .ok (.lstore_n 2, 1) := by decide +kernel
theorem d_MO_word_70 : decode b_MO_word 70 = .ok (.iinc 4 1, 3) := by decide +kernel
theorem d_MO_word_73 : decode b_MO_word 73 = .ok (.goto (-44), 3) := by decide +kernel
theorem d_MO_word_76 : decode b_MO_word 76 = .ok (.lload_n 2, 1) := by decide +kernel
theorem d_MO_word_77 : decode b_MO_word 77 = .ok (.lreturn, 1) := by decide +kernel
theorem d_MO_count_0 : decode b_MO_count 0 = .ok (.aload_n 0, 1) := by decide +kernel
theorem d_MO_count_1 : decode b_MO_count 1 = .ok (.iconst 0, 1) := by decide +kernel
theorem d_MO_count_2 : decode b_MO_count 2 = .ok (.putfield 40, 3) := by decide +kernel
theorem d_MO_count_5 : decode b_MO_count 5 = .ok (.iload_n 1, 1) := by decide +kernel
theorem d_MO_count_6 : decode b_MO_count 6 = .ok (.ifCond .lt 8, 3) := by decide +kernel
theorem d_MO_count_9 : decode b_MO_count 9 = .ok (.iload_n 1, 1) := by decide +kernel
theorem d_MO_count_10 : decode b_MO_count 10 = .ok (.iconst 1, 1) := by decide +kernel
theorem d_MO_count_11 : decode b_MO_count 11 = .ok (.if_icmp .le 11, 3) := by decide +kernel
theorem d_MO_count_14 : decode b_MO_count 14 = .ok (.aload_n 0, 1) := by decide +kernel
theorem d_MO_count_15 : decode b_MO_count 15 = .ok (.iconst 1, 1) := by decide +kernel
theorem d_MO_count_16 : decode b_MO_count 16 = .ok (.invokevirtual 109, 3) := by decide +kernel
theorem d_MO_count_19 : decode b_MO_count 19 = .ok (.goto 18, 3) := by decide +kernel
theorem d_MO_count_22 : decode b_MO_count 22 = .ok (.iload_n 1, 1) := by decide +kernel
theorem d_MO_count_23 : decode b_MO_count 23 = .ok (.ifCond .ne 10, 3) := by decide +kernel
theorem d_MO_count_26 : decode b_MO_count 26 = .ok (.aload_n 0, 1) := by decide +kernel
theorem d_MO_count_27 : decode b_MO_count 27 = .ok (.getfield 112, 3) := by decide +kernel
theorem d_MO_count_30 : decode b_MO_count 30 = .ok (.goto 7, 3) := by decide +kernel
theorem d_MO_count_33 : decode b_MO_count 33 = .ok (.aload_n 0, 1) := by decide +kernel
theorem d_MO_count_34 : decode b_MO_count 34 = .ok (.getfield 118, 3) := by decide +kernel
theorem d_MO_count_37 : decode b_MO_count 37 = .ok (.ireturn, 1) := by decide +kernel
