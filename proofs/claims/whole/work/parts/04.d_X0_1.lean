theorem dX1_laces_1 : decode cX1_laces 1 = .ok (.iconst 3, 1) := by decide +kernel
theorem dX1_laces_2 : decode cX1_laces 2 = .ok (.if_icmp .ne 5, 3) := by decide +kernel
theorem dX1_laces_5 : decode cX1_laces 5 = .ok (.iconst 4, 1) := by decide +kernel
theorem dX1_laces_6 : decode cX1_laces 6 = .ok (.ireturn, 1) := by decide +kernel
theorem dX1_laces_7 : decode cX1_laces 7 = .ok (.iload_n 0, 1) := by decide +kernel
theorem dX1_laces_8 : decode cX1_laces 8 = .ok (.iconst 4, 1) := by decide +kernel
theorem dX1_laces_9 : decode cX1_laces 9 = .ok (.if_icmp .ne 8, 3) := by decide +kernel
theorem dX1_laces_12 : decode cX1_laces 12 = .ok (.bipush 8, 2) := by decide +kernel
theorem dX1_laces_14 : decode cX1_laces 14 = .ok (.goto 4, 3) := by decide +kernel
theorem dX1_laces_17 : decode cX1_laces 17 = .ok (.iconst 0, 1) := by decide +kernel
theorem dX1_laces_18 : decode cX1_laces 18 = .ok (.ireturn, 1) := by decide +kernel
theorem dX1_isUnder_0 : decode cX1_isUnder 0 = .ok (.iload_n 0, 1) := by decide +kernel
theorem dX1_isUnder_1 : decode cX1_isUnder 1 = .ok (.istore_n 2, 1) := by decide +kernel
theorem dX1_isUnder_2 : decode cX1_isUnder 2 = .ok (.iconst 0, 1) := by decide +kernel
theorem dX1_isUnder_3 : decode cX1_isUnder 3 = .ok (.istore_n 3, 1) := by decide +kernel
theorem dX1_isUnder_4 : decode cX1_isUnder 4 = .ok (.iload_n 3, 1) := by decide +kernel
theorem dX1_isUnder_5 : decode cX1_isUnder 5 = .ok (.bipush 7, 2) := by decide +kernel
theorem dX1_isUnder_7 : decode cX1_isUnder 7 = .ok (.if_icmp .ge 32, 3) := by decide +kernel
theorem dX1_isUnder_10 : decode cX1_isUnder 10 = .ok (.iload_n 2, 1) := by decide +kernel
theorem dX1_isUnder_11 : decode cX1_isUnder 11 = .ok (.ifCond .lt 28, 3) := by decide +kernel
theorem dX1_isUnder_14 : decode cX1_isUnder 14 = .ok (.iload_n 2, 1) := by decide +kernel
theorem dX1_isUnder_15 : decode cX1_isUnder 15 = .ok (.bipush 7, 2) := by decide +kernel
theorem dX1_isUnder_17 : decode cX1_isUnder 17 = .ok (.if_icmp .ge 22, 3) := by decide +kernel
theorem dX1_isUnder_20 : decode cX1_isUnder 20 = .ok (.iload_n 2, 1) := by decide +kernel
theorem dX1_isUnder_21 : decode cX1_isUnder 21 = .ok (.iload_n 1, 1) := by decide +kernel
theorem dX1_isUnder_22 : decode cX1_isUnder 22 = .ok (.if_icmp .ne 5, 3) := by decide +kernel
theorem dX1_isUnder_25 : decode cX1_isUnder 25 = .ok (.iconst 1, 1) := by decide +kernel
theorem dX1_isUnder_26 : decode cX1_isUnder 26 = .ok (.ireturn, 1) := by decide +kernel
theorem dX1_isUnder_27 : decode cX1_isUnder 27 = .ok (.getstatic 15, 3) := by decide +kernel
theorem dX1_isUnder_30 : decode cX1_isUnder 30 = .ok (.iload_n 2, 1) := by decide +kernel
theorem dX1_isUnder_31 : decode cX1_isUnder 31 = .ok (.iaload, 1) := by decide +kernel
theorem dX1_isUnder_32 : decode cX1_isUnder 32 = .ok (.istore_n 2, 1) := by decide +kernel
theorem dX1_isUnder_33 : decode cX1_isUnder 33 = .ok (.iinc 3 1, 3) := by decide +kernel
theorem dX1_isUnder_36 : decode cX1_isUnder 36 = .ok (.goto (-32), 3) := by decide +kernel
theorem dX1_isUnder_39 : decode cX1_isUnder 39 = .ok (.iconst 0, 1) := by decide +kernel
theorem dX1_isUnder_40 : decode cX1_isUnder 40 = .ok (.ireturn, 1) := by decide +kernel
theorem dX2_init_0 : decode cX2_init 0 = .ok (.aload_n 0, 1) := by decide +kernel
theorem dX2_init_1 : decode cX2_init 1 = .ok (.invokespecial 1, 3) := by decide +kernel
theorem dX2_init_4 : decode cX2_init 4 = .ok (.aload_n 0, 1) := by decide +kernel
theorem dX2_init_5 : decode cX2_init 5 = .ok (.iconst 4, 1) := by decide +kernel
theorem dX2_init_6 : decode cX2_init 6 = .ok (.bipush 40, 2) := by decide +kernel
theorem dX2_init_8 : decode cX2_init 8 = .ok (.multianewarray 9 2, 4) := by decide +kernel
theorem dX2_init_12 : decode cX2_init 12 = .ok (.putfield 11, 3) := by decide +kernel
theorem dX2_init_15 : decode cX2_init 15 = .ok (.aload_n 0, 1) := by decide +kernel
theorem dX2_init_16 : decode cX2_init 16 = .ok (.iconst 4, 1) := by decide +kernel
theorem dX2_init_17 : decode cX2_init 17 = .ok (.newarray .int, 2) := by decide +kernel
theorem dX2_init_19 : decode cX2_init 19 = .ok (.putfield 14, 3) := by decide +kernel
theorem dX2_init_22 : decode cX2_init 22 = .ok (.aload_n 0, 1) := by decide +kernel
theorem dX2_init_23 : decode cX2_init 23 = .ok (.iconst 4, 1) := by decide +kernel
theorem dX2_init_24 : decode cX2_init 24 = .ok (.newarray .int, 2) := by decide +kernel
theorem dX2_init_26 : decode cX2_init 26 = .ok (.putfield 18, 3) := by decide +kernel
theorem dX2_init_29 : decode cX2_init 29 = .ok (.return_, 1) := by decide +kernel
theorem dX2_isSheet_0 : decode cX2_isSheet 0 = .ok (.iload_n 0, 1) := by decide +kernel
theorem dX2_isSheet_1 : decode cX2_isSheet 1 = .ok (.ifCond .lt 12, 3) := by decide +kernel
theorem dX2_isSheet_4 : decode cX2_isSheet 4 = .ok (.iload_n 0, 1) := by decide +kernel
theorem dX2_isSheet_5 : decode cX2_isSheet 5 = .ok (.iconst 4, 1) := by decide +kernel
theorem dX2_isSheet_6 : decode cX2_isSheet 6 = .ok (.if_icmp .ge 7, 3) := by decide +kernel
theorem dX2_isSheet_9 : decode cX2_isSheet 9 = .ok (.iconst 1, 1) := by decide +kernel
theorem dX2_isSheet_10 : decode cX2_isSheet 10 = .ok (.goto 4, 3) := by decide +kernel
theorem dX2_isSheet_13 : decode cX2_isSheet 13 = .ok (.iconst 0, 1) := by decide +kernel
theorem dX2_isSheet_14 : decode cX2_isSheet 14 = .ok (.ireturn, 1) := by decide +kernel
theorem dX2_areBits_0 : decode cX2_areBits 0 = .ok (.iload_n 0, 1) := by decide +kernel
theorem dX2_areBits_1 : decode cX2_areBits 1 = .ok (.ifCond .eq 21, 3) := by decide +kernel
theorem dX2_areBits_4 : decode cX2_areBits 4 = .ok (.iload_n 0, 1) := by decide +kernel
theorem dX2_areBits_5 : decode cX2_areBits 5 = .ok (.bipush 8, 2) := by decide +kernel
theorem dX2_areBits_7 : decode cX2_areBits 7 = .ok (.if_icmp .eq 15, 3) := by decide +kernel
theorem dX2_areBits_10 : decode cX2_areBits 10 = .ok (.iload_n 0, 1) := by decide +kernel
theorem dX2_areBits_11 : decode cX2_areBits 11 = .ok (.bipush 16, 2) := by decide +kernel
theorem dX2_areBits_13 : decode cX2_areBits 13 = .ok (.if_icmp .eq 9, 3) := by decide +kernel
theorem dX2_areBits_16 : decode cX2_areBits 16 = .ok (.iload_n 0, 1) := by decide +kernel
theorem dX2_areBits_17 : decode cX2_areBits 17 = .ok (.bipush 32, 2) := by decide +kernel
theorem dX2_areBits_19 : decode cX2_areBits 19 = .ok (.if_icmp .ne 7, 3) := by decide +kernel
theorem dX2_areBits_22 : decode cX2_areBits 22 = .ok (.iconst 1, 1) := by decide +kernel
theorem dX2_areBits_23 : decode cX2_areBits 23 = .ok (.goto 4, 3) := by decide +kernel
theorem dX2_areBits_26 : decode cX2_areBits 26 = .ok (.iconst 0, 1) := by decide +kernel
theorem dX2_areBits_27 : decode cX2_areBits 27 = .ok (.ireturn, 1) := by decide +kernel
theorem dX2_isMissing_0 : decode cX2_isMissing 0 = .ok (.aload_n 0, 1) := by decide +kernel
theorem dX2_isMissing_1 : decode cX2_isMissing 1 = .ok (.getfield 14, 3) := by decide +kernel
theorem dX2_isMissing_4 : decode cX2_isMissing 4 = .ok (.iload_n 1, 1) := by decide +kernel
theorem dX2_isMissing_5 : decode cX2_isMissing 5 = .ok (.iaload, 1) := by decide +kernel
theorem dX2_isMissing_6 : decode cX2_isMissing 6 = .ok (.ifCond .ne 7, 3) := by decide +kernel
theorem dX2_isMissing_9 : decode cX2_isMissing 9 = .ok (.iconst 1, 1) := by decide +kernel
theorem dX2_isMissing_10 : decode cX2_isMissing 10 = .ok (.goto 4, 3) := by decide +kernel
theorem dX2_isMissing_13 : decode cX2_isMissing 13 = .ok (.iconst 0, 1) := by decide +kernel
theorem dX2_isMissing_14 : decode cX2_isMissing 14 = .ok (.ireturn, 1) := by decide +kernel
theorem dX2_make_0 : decode cX2_make 0 = .ok (.aload_n 0, 1) := by decide +kernel
theorem dX2_make_1 : decode cX2_make 1 = .ok (.getfield 14, 3) := by decide +kernel
theorem dX2_make_4 : decode cX2_make 4 = .ok (.iload_n 1, 1) := by decide +kernel
theorem dX2_make_5 : decode cX2_make 5 = .ok (.iload_n 2, 1) := by decide +kernel
theorem dX2_make_6 : decode cX2_make 6 = .ok (.iastore, 1) := by decide +kernel
theorem dX2_make_7 : decode cX2_make 7 = .ok (.aload_n 0, 1) := by decide +kernel
theorem dX2_make_8 : decode cX2_make 8 = .ok (.getfield 18, 3) := by decide +kernel
theorem dX2_make_11 : decode cX2_make 11 = .ok (.iload_n 1, 1) := by decide +kernel
theorem dX2_make_12 : decode cX2_make 12 = .ok (.iload_n 2, 1) := by decide +kernel
theorem dX2_make_13 : decode cX2_make 13 = .ok (.ifCond .ne 7, 3) := by decide +kernel
theorem dX2_make_16 : decode cX2_make 16 = .ok (.iconst 0, 1) := by decide +kernel
theorem dX2_make_17 : decode cX2_make 17 = .ok (.goto 4, 3) := by decide +kernel
theorem dX2_make_20 : decode cX2_make 20 = .ok (.iload_n 3, 1) := by decide +kernel
theorem dX2_make_21 : decode cX2_make 21 = .ok (.iastore, 1) := by decide +kernel
theorem dX2_make_22 : decode cX2_make 22 = .ok (.aload_n 0, 1) := by decide +kernel
theorem dX2_make_23 : decode cX2_make 23 = .ok (.getfield 11, 3) := by decide +kernel
theorem dX2_make_26 : decode cX2_make 26 = .ok (.iload_n 1, 1) := by decide +kernel
theorem dX2_make_27 : decode cX2_make 27 = .ok (.aaload, 1) := by decide +kernel
theorem dX2_make_28 : decode cX2_make 28 = .ok (.iconst 0, 1) := by decide +kernel
theorem dX2_make_29 : decode cX2_make 29 = .ok (.invokestatic 21, 3) := by decide +kernel
theorem dX2_make_32 : decode cX2_make 32 = .ok (.aload_n 0, 1) := by decide +kernel
theorem dX2_make_33 : decode cX2_make 33 = .ok (.getfield 18, 3) := by decide +kernel
theorem dX2_make_36 : decode cX2_make 36 = .ok (.iload_n 1, 1) := by decide +kernel
theorem dX2_make_37 : decode cX2_make 37 = .ok (.iaload, 1) := by decide +kernel
theorem dX2_make_38 : decode cX2_make 38 = .ok (.ireturn, 1) := by decide +kernel
theorem dX2_put_0 : decode cX2_put 0 = .ok (.bipush 32, 2) := by decide +kernel
theorem dX2_put_2 : decode cX2_put 2 = .ok (.aload_n 0, 1) := by decide +kernel
theorem dX2_put_3 : decode cX2_put 3 = .ok (.getfield 14, 3) := by decide +kernel
theorem dX2_put_6 : decode cX2_put 6 = .ok (.iload_n 1, 1) := by decide +kernel
theorem dX2_put_7 : decode cX2_put 7 = .ok (.iaload, 1) := by decide +kernel
theorem dX2_put_8 : decode cX2_put 8 = .ok (.isub, 1) := by decide +kernel
theorem dX2_put_9 : decode cX2_put 9 = .ok (.istore 4, 2) := by decide +kernel
theorem dX2_put_11 : decode cX2_put 11 = .ok (.aload_n 0, 1) := by decide +kernel
theorem dX2_put_12 : decode cX2_put 12 = .ok (.getfield 11, 3) := by decide +kernel
theorem dX2_put_15 : decode cX2_put 15 = .ok (.iload_n 1, 1) := by decide +kernel
theorem dX2_put_16 : decode cX2_put 16 = .ok (.aaload, 1) := by decide +kernel
theorem dX2_put_17 : decode cX2_put 17 = .ok (.iload_n 2, 1) := by decide +kernel
theorem dX2_put_18 : decode cX2_put 18 = .ok (.iload_n 3, 1) := by decide +kernel
theorem dX2_put_19 : decode cX2_put 19 = .ok (.iload 4, 2) := by decide +kernel
theorem dX2_put_21 : decode cX2_put 21 = .ok (.ishl, 1) := by decide +kernel
theorem dX2_put_22 : decode cX2_put 22 = .ok (.iload 4, 2) := by decide +kernel
theorem dX2_put_24 : decode cX2_put 24 = .ok (.ishr, 1) := by decide +kernel
theorem dX2_put_25 : decode cX2_put 25 = .ok (.iastore, 1) := by decide +kernel
theorem dX2_put_26 : decode cX2_put 26 = .ok (.return_, 1) := by decide +kernel
theorem dX2_hasRange_0 : decode cX2_hasRange 0 = .ok (.iload_n 2, 1) := by decide +kernel
theorem dX2_hasRange_1 : decode cX2_hasRange 1 = .ok (.ifCond .lt 33, 3) := by decide +kernel
theorem dX2_hasRange_4 : decode cX2_hasRange 4 = .ok (.iload_n 3, 1) := by decide +kernel
theorem dX2_hasRange_5 : decode cX2_hasRange 5 = .ok (.ifCond .lt 29, 3) := by decide +kernel
theorem dX2_hasRange_8 : decode cX2_hasRange 8 = .ok (.iload_n 3, 1) := by decide +kernel
theorem dX2_hasRange_9 : decode cX2_hasRange 9 = .ok (.aload_n 0, 1) := by decide +kernel
theorem dX2_hasRange_10 : decode cX2_hasRange 10 = .ok (.getfield 18, 3) := by decide +kernel
theorem dX2_hasRange_13 : decode cX2_hasRange 13 = .ok (.iload_n 1, 1) := by decide +kernel
theorem dX2_hasRange_14 : decode cX2_hasRange 14 = .ok (.iaload, 1) := by decide +kernel
theorem dX2_hasRange_15 : decode cX2_hasRange 15 = .ok (.if_icmp .gt 19, 3) := by decide +kernel
theorem dX2_hasRange_18 : decode cX2_hasRange 18 = .ok (.iload_n 2, 1) := by decide +kernel
theorem dX2_hasRange_19 : decode cX2_hasRange 19 = .ok (.aload_n 0, 1) := by decide +kernel
theorem dX2_hasRange_20 : decode cX2_hasRange 20 = .ok (.getfield 18, 3) := by decide +kernel
theorem dX2_hasRange_23 : decode cX2_hasRange 23 = .ok (.iload_n 1, 1) := by decide +kernel
theorem dX2_hasRange_24 : decode cX2_hasRange 24 = .ok (.iaload, 1) := by decide +kernel
theorem dX2_hasRange_25 : decode cX2_hasRange 25 = .ok (.iload_n 3, 1) := by decide +kernel
theorem dX2_hasRange_26 : decode cX2_hasRange 26 = .ok (.isub, 1) := by decide +kernel
theorem dX2_hasRange_27 : decode cX2_hasRange 27 = .ok (.if_icmp .gt 7, 3) := by decide +kernel
theorem dX2_hasRange_30 : decode cX2_hasRange 30 = .ok (.iconst 1, 1) := by decide +kernel
theorem dX2_hasRange_31 : decode cX2_hasRange 31 = .ok (.goto 4, 3) := by decide +kernel
theorem dX2_hasRange_34 : decode cX2_hasRange 34 = .ok (.iconst 0, 1) := by decide +kernel
theorem dX2_hasRange_35 : decode cX2_hasRange 35 = .ok (.ireturn, 1) := by decide +kernel
