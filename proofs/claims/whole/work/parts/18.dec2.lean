theorem d_LB_init_0 : decode b_LB_init 0 = .ok (.aload_n 0, 1) := by decide +kernel
theorem d_LB_init_1 : decode b_LB_init 1 = .ok (.invokespecial 1, 3) := by decide +kernel
theorem d_LB_init_4 : decode b_LB_init 4 = .ok (.aload_n 0, 1) := by decide +kernel
theorem d_LB_init_5 : decode b_LB_init 5 = .ok (.sipush 16384, 3) := by decide +kernel
theorem d_LB_init_8 : decode b_LB_init 8 = .ok (.newarray .byte, 2) := by decide +kernel
theorem d_LB_init_10 : decode b_LB_init 10 = .ok (.putfield 9, 3) := by decide +kernel
theorem d_LB_init_13 : decode b_LB_init 13 = .ok (.aload_n 0, 1) := by decide +kernel
theorem d_LB_init_14 : decode b_LB_init 14 = .ok (.sipush 16384, 3) := by decide +kernel
theorem d_LB_init_17 : decode b_LB_init 17 = .ok (.newarray .byte, 2) := by decide +kernel
theorem d_LB_init_19 : decode b_LB_init 19 = .ok (.putfield 13, 3) := by decide +kernel
theorem d_LB_init_22 : decode b_LB_init 22 = .ok (.aload_n 0, 1) := by decide +kernel
theorem d_LB_init_23 : decode b_LB_init 23 = .ok (.sipush 16384, 3) := by decide +kernel
theorem d_LB_init_26 : decode b_LB_init 26 = .ok (.newarray .byte, 2) := by decide +kernel
theorem d_LB_init_28 : decode b_LB_init 28 = .ok (.putfield 16, 3) := by decide +kernel
theorem d_LB_init_31 : decode b_LB_init 31 = .ok (.aload_n 0, 1) := by decide +kernel
theorem d_LB_init_32 : decode b_LB_init 32 = .ok (.iconst 0, 1) := by decide +kernel
theorem d_LB_init_33 : decode b_LB_init 33 = .ok (.putfield 19, 3) := by decide +kernel
theorem d_LB_init_36 : decode b_LB_init 36 = .ok (.aload_n 0, 1) := by decide +kernel
theorem d_LB_init_37 : decode b_LB_init 37 = .ok (.iconst 0, 1) := by decide +kernel
theorem d_LB_init_38 : decode b_LB_init 38 = .ok (.putfield 23, 3) := by decide +kernel
theorem d_LB_init_41 : decode b_LB_init 41 = .ok (.aload_n 0, 1) := by decide +kernel
theorem d_LB_init_42 : decode b_LB_init 42 = .ok (.new 26, 3) := by decide +kernel
theorem d_LB_init_45 : decode b_LB_init 45 = .ok (.dup, 1) := by decide +kernel
theorem d_LB_init_46 : decode b_LB_init 46 = .ok (.invokespecial 28, 3) := by decide +kernel
theorem d_LB_init_49 : decode b_LB_init 49 = .ok (.putfield 29, 3) := by decide +kernel
theorem d_LB_init_52 : decode b_LB_init 52 = .ok (.aload_n 0, 1) := by decide +kernel
theorem d_LB_init_53 : decode b_LB_init 53 = .ok (.new 33, 3) := by decide +kernel
theorem d_LB_init_56 : decode b_LB_init 56 = .ok (.dup, 1) := by decide +kernel
theorem d_LB_init_57 : decode b_LB_init 57 = .ok (.invokespecial 35, 3) := by decide +kernel
theorem d_LB_init_60 : decode b_LB_init 60 = .ok (.putfield 36, 3) := by decide +kernel
theorem d_LB_init_63 : decode b_LB_init 63 = .ok (.return_, 1) := by decide +kernel
theorem d_LB_feed_0 : decode b_LB_feed 0 = .ok (.aload_n 0, 1) := by decide +kernel
theorem d_LB_feed_1 : decode b_LB_feed 1 = .ok (.getfield 19, 3) := by decide +kernel
theorem d_LB_feed_4 : decode b_LB_feed 4 = .ok (.sipush 16364, 3) := by decide +kernel
theorem d_LB_feed_7 : decode b_LB_feed 7 = .ok (.if_icmp .le 13, 3) := by decide +kernel
theorem d_LB_feed_10 : decode b_LB_feed 10 = .ok (.new 40, 3) := by decide +kernel
theorem d_LB_feed_13 : decode b_LB_feed 13 = .ok (.dup, 1) := by decide +kernel
theorem d_LB_feed_14 : decode b_LB_feed 14 = .ok (.ldc 42, 2) := by decide +kernel
theorem d_LB_feed_16 : decode b_LB_feed 16 = .ok (.invokespecial 44, 3) := by decide +kernel
theorem d_LB_feed_19 : decode b_LB_feed 19 = .ok (.athrow, 1) := by decide +kernel
theorem d_LB_feed_20 : decode b_LB_feed 20 = .ok (.aload_n 0, 1) := by decide +kernel
theorem d_LB_feed_21 : decode b_LB_feed 21 = .ok (.iload_n 1, 1) := by decide +kernel
theorem d_LB_feed_22 : decode b_LB_feed 22 = .ok (.invokevirtual 47, 3) := by decide +kernel
theorem d_LB_feed_25 : decode b_LB_feed 25 = .ok (.aload_n 0, 1) := by decide +kernel
theorem d_LB_feed_26 : decode b_LB_feed 26 = .ok (.iload_n 2, 1) := by decide +kernel
theorem d_LB_feed_27 : decode b_LB_feed 27 = .ok (.invokevirtual 47, 3) := by decide +kernel
theorem d_LB_feed_30 : decode b_LB_feed 30 = .ok (.aload_n 0, 1) := by decide +kernel
theorem d_LB_feed_31 : decode b_LB_feed 31 = .ok (.iload_n 3, 1) := by decide +kernel
theorem d_LB_feed_32 : decode b_LB_feed 32 = .ok (.invokevirtual 47, 3) := by decide +kernel
theorem d_LB_feed_35 : decode b_LB_feed 35 = .ok (.aload_n 0, 1) := by decide +kernel
theorem d_LB_feed_36 : decode b_LB_feed 36 = .ok (.iload 4, 2) := by decide +kernel
theorem d_LB_feed_38 : decode b_LB_feed 38 = .ok (.invokevirtual 47, 3) := by decide +kernel
theorem d_LB_feed_41 : decode b_LB_feed 41 = .ok (.aload_n 0, 1) := by decide +kernel
theorem d_LB_feed_42 : decode b_LB_feed 42 = .ok (.iload 5, 2) := by decide +kernel
theorem d_LB_feed_44 : decode b_LB_feed 44 = .ok (.invokevirtual 47, 3) := by decide +kernel
theorem d_LB_feed_47 : decode b_LB_feed 47 = .ok (.aload_n 0, 1) := by decide +kernel
theorem d_LB_feed_48 : decode b_LB_feed 48 = .ok (.getfield 19, 3) := by decide +kernel
theorem d_LB_feed_51 : decode b_LB_feed 51 = .ok (.ireturn, 1) := by decide +kernel
theorem d_LB_end_0 : decode b_LB_end 0 = .ok (.iload_n 1, 1) := by decide +kernel
theorem d_LB_end_1 : decode b_LB_end 1 = .ok (.ifCond .lt 11, 3) := by decide +kernel
theorem d_LB_end_4 : decode b_LB_end 4 = .ok (.iload_n 1, 1) := by decide +kernel
theorem d_LB_end_5 : decode b_LB_end 5 = .ok (.aload_n 0, 1) := by decide +kernel
theorem d_LB_end_6 : decode b_LB_end 6 = .ok (.getfield 19, 3) := by decide +kernel
theorem d_LB_end_9 : decode b_LB_end 9 = .ok (.if_icmp .le 13, 3) := by decide +kernel
theorem d_LB_end_12 : decode b_LB_end 12 = .ok (.new 51, 3) := by decide +kernel
theorem d_LB_end_15 : decode b_LB_end 15 = .ok (.dup, 1) := by decide +kernel
theorem d_LB_end_16 : decode b_LB_end 16 = .ok (.ldc 53, 2) := by decide +kernel
theorem d_LB_end_18 : decode b_LB_end 18 = .ok (.invokespecial 55, 3) := by decide +kernel
theorem d_LB_end_21 : decode b_LB_end 21 = .ok (.athrow, 1) := by decide +kernel
theorem d_LB_end_22 : decode b_LB_end 22 = .ok (.aload_n 0, 1) := by decide +kernel
theorem d_LB_end_23 : decode b_LB_end 23 = .ok (.iload_n 1, 1) := by decide +kernel
theorem d_LB_end_24 : decode b_LB_end 24 = .ok (.putfield 19, 3) := by decide +kernel
theorem d_LB_end_27 : decode b_LB_end 27 = .ok (.aload_n 0, 1) := by decide +kernel
theorem d_LB_end_28 : decode b_LB_end 28 = .ok (.getfield 19, 3) := by decide +kernel
theorem d_LB_end_31 : decode b_LB_end 31 = .ok (.ireturn, 1) := by decide +kernel
theorem d_LB_again_0 : decode b_LB_again 0 = .ok (.aload_n 0, 1) := by decide +kernel
theorem d_LB_again_1 : decode b_LB_again 1 = .ok (.getfield 13, 3) := by decide +kernel
theorem d_LB_again_4 : decode b_LB_again 4 = .ok (.iconst 0, 1) := by decide +kernel
theorem d_LB_again_5 : decode b_LB_again 5 = .ok (.aload_n 0, 1) := by decide +kernel
theorem d_LB_again_6 : decode b_LB_again 6 = .ok (.getfield 9, 3) := by decide +kernel
theorem d_LB_again_9 : decode b_LB_again 9 = .ok (.iconst 0, 1) := by decide +kernel
theorem d_LB_again_10 : decode b_LB_again 10 = .ok (.aload_n 0, 1) := by decide +kernel
theorem d_LB_again_11 : decode b_LB_again 11 = .ok (.getfield 23, 3) := by decide +kernel
theorem d_LB_again_14 : decode b_LB_again 14 = .ok (.invokestatic 56, 3) := by decide +kernel
theorem d_LB_again_17 : decode b_LB_again 17 = .ok (.aload_n 0, 1) := by decide +kernel
theorem d_LB_again_18 : decode b_LB_again 18 = .ok (.aload_n 0, 1) := by decide +kernel
theorem d_LB_again_19 : decode b_LB_again 19 = .ok (.getfield 23, 3) := by decide +kernel
theorem d_LB_again_22 : decode b_LB_again 22 = .ok (.putfield 19, 3) := by decide +kernel
theorem d_LB_again_25 : decode b_LB_again 25 = .ok (.aload_n 0, 1) := by decide +kernel
theorem d_LB_again_26 : decode b_LB_again 26 = .ok (.getfield 19, 3) := by decide +kernel
theorem d_LB_again_29 : decode b_LB_again 29 = .ok (.ireturn, 1) := by decide +kernel
theorem d_LB_unpack_0 : decode b_LB_unpack 0 = .ok (.iload_n 1, 1) := by decide +kernel
theorem d_LB_unpack_1 : decode b_LB_unpack 1 = .ok (.invokestatic 62, 3) := by decide +kernel
theorem d_LB_unpack_4 : decode b_LB_unpack 4 = .ok (.aload_n 0, 1) := by decide +kernel
theorem d_LB_unpack_5 : decode b_LB_unpack 5 = .ok (.getfield 19, 3) := by decide +kernel
theorem d_LB_unpack_8 : decode b_LB_unpack 8 = .ok (.istore_n 2, 1) := by decide +kernel
theorem d_LB_unpack_9 : decode b_LB_unpack 9 = .ok (.aload_n 0, 1) := by decide +kernel
theorem d_LB_unpack_10 : decode b_LB_unpack 10 = .ok (.iconst 0, 1) := by decide +kernel
theorem d_LB_unpack_11 : decode b_LB_unpack 11 = .ok (.putfield 19, 3) := by decide +kernel
theorem d_LB_unpack_14 : decode b_LB_unpack 14 = .ok (.aload_n 0, 1) := by decide +kernel
theorem d_LB_unpack_15 : decode b_LB_unpack 15 = .ok (.aload_n 0, 1) := by decide +kernel
theorem d_LB_unpack_16 : decode b_LB_unpack 16 = .ok (.getfield 29, 3) := by decide +kernel
theorem d_LB_unpack_19 : decode b_LB_unpack 19 = .ok (.aload_n 0, 1) := by decide +kernel
theorem d_LB_unpack_20 : decode b_LB_unpack 20 = .ok (.getfield 9, 3) := by decide +kernel
theorem d_LB_unpack_23 : decode b_LB_unpack 23 = .ok (.iload_n 2, 1) := by decide +kernel
theorem d_LB_unpack_24 : decode b_LB_unpack 24 = .ok (.iload_n 1, 1) := by decide +kernel
theorem d_LB_unpack_25 : decode b_LB_unpack 25 = .ok (.aload_n 0, 1) := by decide +kernel
theorem d_LB_unpack_26 : decode b_LB_unpack 26 = .ok (.getfield 16, 3) := by decide +kernel
theorem d_LB_unpack_29 : decode b_LB_unpack 29 = .ok (.invokevirtual 65, 3) := by decide +kernel
theorem d_LB_unpack_32 : decode b_LB_unpack 32 = .ok (.invokevirtual 69, 3) := by decide +kernel
theorem d_LB_unpack_35 : decode b_LB_unpack 35 = .ok (.aload_n 0, 1) := by decide +kernel
theorem d_LB_unpack_36 : decode b_LB_unpack 36 = .ok (.getfield 23, 3) := by decide +kernel
theorem d_LB_unpack_39 : decode b_LB_unpack 39 = .ok (.ireturn, 1) := by decide +kernel
theorem d_LB_pack_0 : decode b_LB_pack 0 = .ok (.iload_n 1, 1) := by decide +kernel
theorem d_LB_pack_1 : decode b_LB_pack 1 = .ok (.invokestatic 62, 3) := by decide +kernel
theorem d_LB_pack_4 : decode b_LB_pack 4 = .ok (.aload_n 0, 1) := by decide +kernel
theorem d_LB_pack_5 : decode b_LB_pack 5 = .ok (.iload_n 1, 1) := by decide +kernel
theorem d_LB_pack_6 : decode b_LB_pack 6 = .ok (.invokevirtual 72, 3) := by decide +kernel
theorem d_LB_pack_9 : decode b_LB_pack 9 = .ok (.ifCond .ne 13, 3) := by decide +kernel
theorem d_LB_pack_12 : decode b_LB_pack 12 = .ok (.new 76, 3) := by decide +kernel
theorem d_LB_pack_15 : decode b_LB_pack 15 = .ok (.dup, 1) := by decide +kernel
theorem d_LB_pack_16 : decode b_LB_pack 16 = .ok (.ldc 78, 2) := by decide +kernel
theorem d_LB_pack_18 : decode b_LB_pack 18 = .ok (.invokespecial 80, 3) := by decide +kernel
theorem d_LB_pack_21 : decode b_LB_pack 21 = .ok (.athrow, 1) := by decide +kernel
theorem d_LB_pack_22 : decode b_LB_pack 22 = .ok (.aload_n 0, 1) := by decide +kernel
theorem d_LB_pack_23 : decode b_LB_pack 23 = .ok (.aload_n 0, 1) := by decide +kernel
theorem d_LB_pack_24 : decode b_LB_pack 24 = .ok (.getfield 36, 3) := by decide +kernel
theorem d_LB_pack_27 : decode b_LB_pack 27 = .ok (.aload_n 0, 1) := by decide +kernel
theorem d_LB_pack_28 : decode b_LB_pack 28 = .ok (.getfield 9, 3) := by decide +kernel
theorem d_LB_pack_31 : decode b_LB_pack 31 = .ok (.aload_n 0, 1) := by decide +kernel
theorem d_LB_pack_32 : decode b_LB_pack 32 = .ok (.getfield 19, 3) := by decide +kernel
theorem d_LB_pack_35 : decode b_LB_pack 35 = .ok (.iload_n 1, 1) := by decide +kernel
theorem d_LB_pack_36 : decode b_LB_pack 36 = .ok (.aload_n 0, 1) := by decide +kernel
theorem d_LB_pack_37 : decode b_LB_pack 37 = .ok (.getfield 16, 3) := by decide +kernel
theorem d_LB_pack_40 : decode b_LB_pack 40 = .ok (.invokevirtual 81, 3) := by decide +kernel
theorem d_LB_pack_43 : decode b_LB_pack 43 = .ok (.invokevirtual 69, 3) := by decide +kernel
theorem d_LB_pack_46 : decode b_LB_pack 46 = .ok (.aload_n 0, 1) := by decide +kernel
theorem d_LB_pack_47 : decode b_LB_pack 47 = .ok (.getfield 23, 3) := by decide +kernel
theorem d_LB_pack_50 : decode b_LB_pack 50 = .ok (.ireturn, 1) := by decide +kernel
theorem d_LB_mask_0 : decode b_LB_mask 0 = .ok (.iload_n 1, 1) := by decide +kernel
theorem d_LB_mask_1 : decode b_LB_mask 1 = .ok (.invokestatic 62, 3) := by decide +kernel
theorem d_LB_mask_4 : decode b_LB_mask 4 = .ok (.iconst 1, 1) := by decide +kernel
theorem d_LB_mask_5 : decode b_LB_mask 5 = .ok (.iload_n 1, 1) := by decide +kernel
theorem d_LB_mask_6 : decode b_LB_mask 6 = .ok (.ishl, 1) := by decide +kernel
theorem d_LB_mask_7 : decode b_LB_mask 7 = .ok (.iconst 1, 1) := by decide +kernel
theorem d_LB_mask_8 : decode b_LB_mask 8 = .ok (.isub, 1) := by decide +kernel
theorem d_LB_mask_9 : decode b_LB_mask 9 = .ok (.istore_n 2, 1) := by decide +kernel
theorem d_LB_mask_10 : decode b_LB_mask 10 = .ok (.iconst 0, 1) := by decide +kernel
theorem d_LB_mask_11 : decode b_LB_mask 11 = .ok (.istore_n 3, 1) := by decide +kernel
theorem d_LB_mask_12 : decode b_LB_mask 12 = .ok (.iload_n 3, 1) := by decide +kernel
theorem d_LB_mask_13 : decode b_LB_mask 13 = .ok (.aload_n 0, 1) := by decide +kernel
theorem d_LB_mask_14 : decode b_LB_mask 14 = .ok (.getfield 19, 3) := by decide +kernel
theorem d_LB_mask_17 : decode b_LB_mask 17 = .ok (.if_icmp .ge 24, 3) := by decide +kernel
theorem d_LB_mask_20 : decode b_LB_mask 20 = .ok (.aload_n 0, 1) := by decide +kernel
theorem d_LB_mask_21 : decode b_LB_mask 21 = .ok (.getfield 9, 3) := by decide +kernel
theorem d_LB_mask_24 : decode b_LB_mask 24 = .ok (.iload_n 3, 1) := by decide +kernel
theorem d_LB_mask_25 : decode b_LB_mask 25 = .ok (.aload_n 0, 1) := by decide +kernel
theorem d_LB_mask_26 : decode b_LB_mask 26 = .ok (.getfield 9, 3) := by decide +kernel
theorem d_LB_mask_29 : decode b_LB_mask 29 = .ok (.iload_n 3, 1) := by decide +kernel
theorem d_LB_mask_30 : decode b_LB_mask 30 = .ok (.baload, 1) := by decide +kernel
theorem d_LB_mask_31 : decode b_LB_mask 31 = .ok (.iload_n 2, 1) := by decide +kernel
theorem d_LB_mask_32 : decode b_LB_mask 32 = .ok (.iand, 1) := by decide +kernel
theorem d_LB_mask_33 : decode b_LB_mask 33 = .ok (.i2b, 1) := by decide +kernel
theorem d_LB_mask_34 : decode b_LB_mask 34 = .ok (.bastore, 1) := by decide +kernel
theorem d_LB_mask_35 : decode b_LB_mask 35 = .ok (.iinc 3 1, 3) := by decide +kernel
theorem d_LB_mask_38 : decode b_LB_mask 38 = .ok (.goto (-26), 3) := by decide +kernel
theorem d_LB_mask_41 : decode b_LB_mask 41 = .ok (.return_, 1) := by decide +kernel
theorem d_LB_word_0 : decode b_LB_word 0 = .ok (.iload_n 1, 1) := by decide +kernel
theorem d_LB_word_1 : decode b_LB_word 1 = .ok (.ifCond .lt 11, 3) := by decide +kernel
theorem d_LB_word_4 : decode b_LB_word 4 = .ok (.iload_n 1, 1) := by decide +kernel
theorem d_LB_word_5 : decode b_LB_word 5 = .ok (.aload_n 0, 1) := by decide +kernel
theorem d_LB_word_6 : decode b_LB_word 6 = .ok (.getfield 23, 3) := by decide +kernel
theorem d_LB_word_9 : decode b_LB_word 9 = .ok (.if_icmp .lt 13, 3) := by decide +kernel
theorem d_LB_word_12 : decode b_LB_word 12 = .ok (.new 40, 3) := by decide +kernel
theorem d_LB_word_15 : decode b_LB_word 15 = .ok (.dup, 1) := by decide +kernel
theorem d_LB_word_16 : decode b_LB_word 16 = .ok (.ldc 84, 2) := by decide +kernel
theorem d_LB_word_18 : decode b_LB_word 18 = .ok (.invokespecial 44, 3) := by decide +kernel
theorem d_LB_word_21 : decode b_LB_word 21 = .ok (.athrow, 1) := by decide +kernel
theorem d_LB_word_22 : decode b_LB_word 22 = .ok (.lconst 0, 1) := by decide +kernel
theorem d_LB_word_23 : decode b_LB_word 23 = .ok (.lstore_n 2, 1) := by decide +kernel
theorem d_LB_word_24 : decode b_LB_word 24 = .ok (.iconst 0, 1) := by decide +kernel
theorem d_LB_word_25 : decode b_LB_word 25 = .ok (.istore 4, 2) := by decide +kernel
theorem d_LB_word_27 : decode b_LB_word 27 = .ok (.iload 4, 2) := by decide +kernel
theorem d_LB_word_29 : decode b_LB_word 29 = .ok (.bipush 8, 2) := by decide +kernel
theorem d_LB_word_31 : decode b_LB_word 31 = .ok (.if_icmp .ge 48, 3) := by decide +kernel
theorem d_LB_word_34 : decode b_LB_word 34 = .ok (.iload_n 1, 1) := by decide +kernel
theorem d_LB_word_35 : decode b_LB_word 35 = .ok (.iload 4, 2) := by decide +kernel
theorem d_LB_word_37 : decode b_LB_word 37 = .ok (.iadd, 1) := by decide +kernel
theorem d_LB_word_38 : decode b_LB_word 38 = .ok (.aload_n 0, 1) := by decide +kernel
theorem d_LB_word_39 : decode b_LB_word 39 = .ok (.getfield 23, 3) := by decide +kernel
theorem d_LB_word_42 : decode b_LB_word 42 = .ok (.if_icmp .ge 19, 3) := by decide +kernel
theorem d_LB_word_45 : decode b_LB_word 45 = .ok (.aload_n 0, 1) := by decide +kernel
theorem d_LB_word_46 : decode b_LB_word 46 = .ok (.getfield 13, 3) := by decide +kernel
theorem d_LB_word_49 : decode b_LB_word 49 = .ok (.iload_n 1, 1) := by decide +kernel
theorem d_LB_word_50 : decode b_LB_word 50 = .ok (.iload 4, 2) := by decide +kernel
theorem d_LB_word_52 : decode b_LB_word 52 = .ok (.iadd, 1) := by decide +kernel
theorem d_LB_word_53 : decode b_LB_word 53 = .ok (.baload, 1) := by decide +kernel
theorem d_LB_word_54 : decode b_LB_word 54 = .ok (.sipush 255, 3) := by decide +kernel
theorem d_LB_word_57 : decode b_LB_word 57 = .ok (.iand, 1) := by decide +kernel
theorem d_LB_word_58 : decode b_LB_word 58 = .ok (.goto 4, 3) := by decide +kernel
theorem d_LB_word_61 : decode b_LB_word 61 = .ok (.iconst 0, 1) := by decide +kernel
theorem d_LB_word_62 : decode b_LB_word 62 = .ok (.istore 5, 2) := by decide +kernel
theorem d_LB_word_64 : decode b_LB_word 64 = .ok (.lload_n 2, 1) := by decide +kernel
theorem d_LB_word_65 : decode b_LB_word 65 = .ok (.bipush 8, 2) := by decide +kernel
theorem d_LB_word_67 : decode b_LB_word 67 = .ok (.lshl, 1) := by decide +kernel
theorem d_LB_word_68 : decode b_LB_word 68 = .ok (.iload 5, 2) := by decide +kernel
theorem d_LB_word_70 : decode b_LB_word 70 = .ok (.i2l, 1) := by decide +kernel
theorem d_LB_word_71 : decode b_LB_word 71 = .ok (.lor, 1) := by decide +kernel
theorem d_LB_word_72 : decode b_LB_word 72 = .ok (.lstore_n 2, 1) := by decide +kernel
theorem d_LB_word_73 : decode b_LB_word 73 = .ok (.iinc 4 1, 3) := by decide +kernel
theorem d_LB_word_76 : decode b_LB_word 76 = .ok (.goto (-49), 3) := by decide +kernel
theorem d_LB_word_79 : decode b_LB_word 79 = .ok (.lload_n 2, 1) := by decide +kernel
theorem d_LB_word_80 : decode b_LB_word 80 = .ok (.lreturn, 1) := by decide +kernel
theorem d_LB_count_0 : decode b_LB_count 0 = .ok (.iload_n 1, 1) := by decide +kernel
theorem d_LB_count_1 : decode b_LB_count 1 = .ok (.ifCond .lt 8, 3) := by decide +kernel
theorem d_LB_count_4 : decode b_LB_count 4 = .ok (.iload_n 1, 1) := by decide +kernel
theorem d_LB_count_5 : decode b_LB_count 5 = .ok (.iconst 1, 1) := by decide +kernel
theorem d_LB_count_6 : decode b_LB_count 6 = .ok (.if_icmp .le 13, 3) := by decide +kernel
theorem d_LB_count_9 : decode b_LB_count 9 = .ok (.new 51, 3) := by decide +kernel
theorem d_LB_count_12 : decode b_LB_count 12 = .ok (.dup, 1) := by decide +kernel
theorem d_LB_count_13 : decode b_LB_count 13 = .ok (.ldc 86, 2) := by decide +kernel
theorem d_LB_count_15 : decode b_LB_count 15 = .ok (.invokespecial 55, 3) := by decide +kernel
theorem d_LB_count_18 : decode b_LB_count 18 = .ok (.athrow, 1) := by decide +kernel
theorem d_LB_count_19 : decode b_LB_count 19 = .ok (.iload_n 1, 1) := by decide +kernel
theorem d_LB_count_20 : decode b_LB_count 20 = .ok (.ifCond .ne 10, 3) := by decide +kernel
theorem d_LB_count_23 : decode b_LB_count 23 = .ok (.aload_n 0, 1) := by decide +kernel
theorem d_LB_count_24 : decode b_LB_count 24 = .ok (.getfield 19, 3) := by decide +kernel
theorem d_LB_count_27 : decode b_LB_count 27 = .ok (.goto 7, 3) := by decide +kernel
theorem d_LB_count_30 : decode b_LB_count 30 = .ok (.aload_n 0, 1) := by decide +kernel
theorem d_LB_count_31 : decode b_LB_count 31 = .ok (.getfield 23, 3) := by decide +kernel
theorem d_LB_count_34 : decode b_LB_count 34 = .ok (.ireturn, 1) := by decide +kernel
theorem d_LB_checkM_0 : decode b_LB_checkM 0 = .ok (.iload_n 0, 1) := by decide +kernel
theorem d_LB_checkM_1 : decode b_LB_checkM 1 = .ok (.iconst 2, 1) := by decide +kernel
theorem d_LB_checkM_2 : decode b_LB_checkM 2 = .ok (.if_icmp .lt 9, 3) := by decide +kernel
theorem d_LB_checkM_5 : decode b_LB_checkM 5 = .ok (.iload_n 0, 1) := by decide +kernel
theorem d_LB_checkM_6 : decode b_LB_checkM 6 = .ok (.bipush 8, 2) := by decide +kernel
theorem d_LB_checkM_8 : decode b_LB_checkM 8 = .ok (.if_icmp .le 13, 3) := by decide +kernel
theorem d_LB_checkM_11 : decode b_LB_checkM 11 = .ok (.new 51, 3) := by decide +kernel
theorem d_LB_checkM_14 : decode b_LB_checkM 14 = .ok (.dup, 1) := by decide +kernel
theorem d_LB_checkM_15 : decode b_LB_checkM 15 = .ok (.ldc 88, 2) := by decide +kernel
theorem d_LB_checkM_17 : decode b_LB_checkM 17 = .ok (.invokespecial 55, 3) := by decide +kernel
theorem d_LB_checkM_20 : decode b_LB_checkM 20 = .ok (.athrow, 1) := by decide +kernel
theorem d_LB_checkM_21 : decode b_LB_checkM 21 = .ok (.return_, 1) := by decide +kernel
theorem d_LB_addToTape_0 : decode b_LB_addToTape 0 = .ok (.bipush 24, 2) := by decide +kernel
theorem d_LB_addToTape_2 : decode b_LB_addToTape 2 = .ok (.istore_n 2, 1) := by decide +kernel
theorem d_LB_addToTape_3 : decode b_LB_addToTape 3 = .ok (.iload_n 2, 1) := by decide +kernel
theorem d_LB_addToTape_4 : decode b_LB_addToTape 4 = .ok (.ifCond .lt 42, 3) := by decide +kernel
theorem d_LB_addToTape_7 : decode b_LB_addToTape 7 = .ok (.aload_n 0, 1) := by decide +kernel
theorem d_LB_addToTape_8 : decode b_LB_addToTape 8 = .ok (.getfield 19, 3) := by decide +kernel
theorem d_LB_addToTape_11 : decode b_LB_addToTape 11 = .ok (.sipush 16384, 3) := by decide +kernel
theorem d_LB_addToTape_14 : decode b_LB_addToTape 14 = .ok (.if_icmp .ge 32, 3) := by decide +kernel
theorem d_LB_addToTape_17 : decode b_LB_addToTape 17 = .ok (.aload_n 0, 1) := by decide +kernel
theorem d_LB_addToTape_18 : decode b_LB_addToTape 18 = .ok (.getfield 9, 3) := by decide +kernel
theorem d_LB_addToTape_21 : decode b_LB_addToTape 21 = .ok (.aload_n 0, 1) := by decide +kernel
theorem d_LB_addToTape_22 : decode b_LB_addToTape 22 = .ok (.getfield 19, 3) := by decide +kernel
theorem d_LB_addToTape_25 : decode b_LB_addToTape 25 = .ok (.iload_n 1, 1) := by decide +kernel
theorem d_LB_addToTape_26 : decode b_LB_addToTape 26 = .ok (.iload_n 2, 1) := by decide +kernel
theorem d_LB_addToTape_27 : decode b_LB_addToTape 27 = .ok (.iushr, 1) := by decide +kernel
theorem d_LB_addToTape_28 : decode b_LB_addToTape 28 = .ok (.i2b, 1) := by decide +kernel
theorem d_LB_addToTape_29 : decode b_LB_addToTape 29 = .ok (.bastore, 1) := by decide +kernel
theorem d_LB_addToTape_30 : decode b_LB_addToTape 30 = .ok (.aload_n 0, 1) := by decide +kernel
theorem d_LB_addToTape_31 : decode b_LB_addToTape 31 = .ok (.dup, 1) := by decide +kernel
theorem d_LB_addToTape_32 : decode b_LB_addToTape 32 = .ok (.getfield 19, 3) := by decide +kernel
theorem d_LB_addToTape_35 : decode b_LB_addToTape 35 = .ok (.iconst 1, 1) := by decide +kernel
theorem d_LB_addToTape_36 : decode b_LB_addToTape 36 = .ok (.iadd, 1) := by decide +kernel
theorem d_LB_addToTape_37 : decode b_LB_addToTape 37 = .ok (.putfield 19, 3) := by decide +kernel
theorem d_LB_addToTape_40 : decode b_LB_addToTape 40 = .ok (.iinc 2 (-8), 3) := by decide +kernel
theorem d_LB_addToTape_43 : decode b_LB_addToTape 43 = .ok (.goto (-40), 3) := by decide +kernel
theorem d_LB_addToTape_46 : decode b_LB_addToTape 46 = .ok (.return_, 1) := by decide +kernel
theorem d_LB_tapeIsIndices_0 : decode b_LB_tapeIsIndices 0 = .ok (.iconst 0, 1) := by decide +kernel
theorem d_LB_tapeIsIndices_1 : decode b_LB_tapeIsIndices 1 = .ok (.istore_n 2, 1) := by decide +kernel
theorem d_LB_tapeIsIndices_2 : decode b_LB_tapeIsIndices 2 = .ok (.iload_n 2, 1) := by decide +kernel
theorem d_LB_tapeIsIndices_3 : decode b_LB_tapeIsIndices 3 = .ok (.aload_n 0, 1) := by decide +kernel
theorem d_LB_tapeIsIndices_4 : decode b_LB_tapeIsIndices 4 = .ok (.getfield 19, 3) := by decide +kernel
theorem d_LB_tapeIsIndices_7 : decode b_LB_tapeIsIndices 7 = .ok (.if_icmp .ge 27, 3) := by decide +kernel
theorem d_LB_tapeIsIndices_10 : decode b_LB_tapeIsIndices 10 = .ok (.aload_n 0, 1) := by decide +kernel
theorem d_LB_tapeIsIndices_11 : decode b_LB_tapeIsIndices 11 = .ok (.getfield 9, 3) := by decide +kernel
theorem d_LB_tapeIsIndices_14 : decode b_LB_tapeIsIndices 14 = .ok (.iload_n 2, 1) := by decide +kernel
theorem d_LB_tapeIsIndices_15 : decode b_LB_tapeIsIndices 15 = .ok (.baload, 1) := by decide +kernel
theorem d_LB_tapeIsIndices_16 : decode b_LB_tapeIsIndices 16 = .ok (.sipush 255, 3) := by decide +kernel
theorem d_LB_tapeIsIndices_19 : decode b_LB_tapeIsIndices 19 = .ok (.iand, 1) := by decide +kernel
theorem d_LB_tapeIsIndices_20 : decode b_LB_tapeIsIndices 20 = .ok (.iconst 1, 1) := by decide +kernel
theorem d_LB_tapeIsIndices_21 : decode b_LB_tapeIsIndices 21 = .ok (.iload_n 1, 1) := by decide +kernel
theorem d_LB_tapeIsIndices_22 : decode b_LB_tapeIsIndices 22 = .ok (.ishl, 1) := by decide +kernel
theorem d_LB_tapeIsIndices_23 : decode b_LB_tapeIsIndices 23 = .ok (.if_icmp .lt 5, 3) := by decide +kernel
theorem d_LB_tapeIsIndices_26 : decode b_LB_tapeIsIndices 26 = .ok (.iconst 0, 1) := by decide +kernel
theorem d_LB_tapeIsIndices_27 : decode b_LB_tapeIsIndices 27 = .ok (.ireturn, 1) := by decide +kernel
theorem d_LB_tapeIsIndices_28 : decode b_LB_tapeIsIndices 28 = .ok (.iinc 2 1, 3) := by decide +kernel
theorem d_LB_tapeIsIndices_31 : decode b_LB_tapeIsIndices 31 = .ok (.goto (-29), 3) := by decide +kernel
theorem d_LB_tapeIsIndices_34 : decode b_LB_tapeIsIndices 34 = .ok (.aload_n 0, 1) := by decide +kernel
theorem d_LB_tapeIsIndices_35 : decode b_LB_tapeIsIndices 35 = .ok (.getfield 19, 3) := by decide +kernel
theorem d_LB_tapeIsIndices_38 : decode b_LB_tapeIsIndices 38 = .ok (.ifCond .le 7, 3) := by decide +kernel
theorem d_LB_tapeIsIndices_41 : decode b_LB_tapeIsIndices 41 = .ok (.iconst 1, 1) := by decide +kernel
theorem d_LB_tapeIsIndices_42 : decode b_LB_tapeIsIndices 42 = .ok (.goto 4, 3) := by decide +kernel
theorem d_LB_tapeIsIndices_45 : decode b_LB_tapeIsIndices 45 = .ok (.iconst 0, 1) := by decide +kernel
theorem d_LB_tapeIsIndices_46 : decode b_LB_tapeIsIndices 46 = .ok (.ireturn, 1) := by decide +kernel
theorem d_LB_takeSpareAsResult_0 : decode b_LB_takeSpareAsResult 0 = .ok (.aload_n 0, 1) := by decide +kernel
theorem d_LB_takeSpareAsResult_1 : decode b_LB_takeSpareAsResult 1 = .ok (.getfield 13, 3) := by decide +kernel
theorem d_LB_takeSpareAsResult_4 : decode b_LB_takeSpareAsResult 4 = .ok (.astore_n 2, 1) := by decide +kernel
theorem d_LB_takeSpareAsResult_5 : decode b_LB_takeSpareAsResult 5 = .ok (.aload_n 0, 1) := by decide +kernel
theorem d_LB_takeSpareAsResult_6 : decode b_LB_takeSpareAsResult 6 = .ok (.aload_n 0, 1) := by decide +kernel
theorem d_LB_takeSpareAsResult_7 : decode b_LB_takeSpareAsResult 7 = .ok (.getfield 16, 3) := by decide +kernel
theorem d_LB_takeSpareAsResult_10 : decode b_LB_takeSpareAsResult 10 = .ok (.putfield 13, 3) := by decide +kernel
theorem d_LB_takeSpareAsResult_13 : decode b_LB_takeSpareAsResult 13 = .ok (.aload_n 0, 1) := by decide +kernel
theorem d_LB_takeSpareAsResult_14 : decode b_LB_takeSpareAsResult 14 = .ok (.aload_n 2, 1) := by decide +kernel
theorem d_LB_takeSpareAsResult_15 : decode b_LB_takeSpareAsResult 15 = .ok (.putfield 16, 3) := by decide +kernel
theorem d_LB_takeSpareAsResult_18 : decode b_LB_takeSpareAsResult 18 = .ok (.aload_n 0, 1) := by decide +kernel
theorem d_LB_takeSpareAsResult_19 : decode b_LB_takeSpareAsResult 19 = .ok (.iload_n 1, 1) := by decide +kernel
theorem d_LB_takeSpareAsResult_20 : decode b_LB_takeSpareAsResult 20 = .ok (.putfield 23, 3) := by decide +kernel
theorem d_LB_takeSpareAsResult_23 : decode b_LB_takeSpareAsResult 23 = .ok (.return_, 1) := by decide +kernel
