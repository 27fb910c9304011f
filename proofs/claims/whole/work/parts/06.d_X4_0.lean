theorem dX4_init_0 : decode cX4_init 0 = .ok (.aload_n 0, 1) := by decide +kernel
theorem dX4_init_1 : decode cX4_init 1 = .ok (.invokespecial 1, 3) := by decide +kernel
theorem dX4_init_4 : decode cX4_init 4 = .ok (.aload_n 0, 1) := by decide +kernel
theorem dX4_init_5 : decode cX4_init 5 = .ok (.new 7, 3) := by decide +kernel
theorem dX4_init_8 : decode cX4_init 8 = .ok (.dup, 1) := by decide +kernel
theorem dX4_init_9 : decode cX4_init 9 = .ok (.invokespecial 9, 3) := by decide +kernel
theorem dX4_init_12 : decode cX4_init 12 = .ok (.putfield 10, 3) := by decide +kernel
theorem dX4_init_15 : decode cX4_init 15 = .ok (.aload_n 0, 1) := by decide +kernel
theorem dX4_init_16 : decode cX4_init 16 = .ok (.new 7, 3) := by decide +kernel
theorem dX4_init_19 : decode cX4_init 19 = .ok (.dup, 1) := by decide +kernel
theorem dX4_init_20 : decode cX4_init 20 = .ok (.invokespecial 9, 3) := by decide +kernel
theorem dX4_init_23 : decode cX4_init 23 = .ok (.putfield 16, 3) := by decide +kernel
theorem dX4_init_26 : decode cX4_init 26 = .ok (.aload_n 0, 1) := by decide +kernel
theorem dX4_init_27 : decode cX4_init 27 = .ok (.new 7, 3) := by decide +kernel
theorem dX4_init_30 : decode cX4_init 30 = .ok (.dup, 1) := by decide +kernel
theorem dX4_init_31 : decode cX4_init 31 = .ok (.invokespecial 9, 3) := by decide +kernel
theorem dX4_init_34 : decode cX4_init 34 = .ok (.putfield 19, 3) := by decide +kernel
theorem dX4_init_37 : decode cX4_init 37 = .ok (.aload_n 0, 1) := by decide +kernel
theorem dX4_init_38 : decode cX4_init 38 = .ok (.iconst 0, 1) := by decide +kernel
theorem dX4_init_39 : decode cX4_init 39 = .ok (.putfield 22, 3) := by decide +kernel
theorem dX4_init_42 : decode cX4_init 42 = .ok (.aload_n 0, 1) := by decide +kernel
theorem dX4_init_43 : decode cX4_init 43 = .ok (.new 26, 3) := by decide +kernel
theorem dX4_init_46 : decode cX4_init 46 = .ok (.dup, 1) := by decide +kernel
theorem dX4_init_47 : decode cX4_init 47 = .ok (.invokespecial 28, 3) := by decide +kernel
theorem dX4_init_50 : decode cX4_init 50 = .ok (.putfield 29, 3) := by decide +kernel
theorem dX4_init_53 : decode cX4_init 53 = .ok (.aload_n 0, 1) := by decide +kernel
theorem dX4_init_54 : decode cX4_init 54 = .ok (.new 33, 3) := by decide +kernel
theorem dX4_init_57 : decode cX4_init 57 = .ok (.dup, 1) := by decide +kernel
theorem dX4_init_58 : decode cX4_init 58 = .ok (.invokespecial 35, 3) := by decide +kernel
theorem dX4_init_61 : decode cX4_init 61 = .ok (.putfield 36, 3) := by decide +kernel
theorem dX4_init_64 : decode cX4_init 64 = .ok (.aload_n 0, 1) := by decide +kernel
theorem dX4_init_65 : decode cX4_init 65 = .ok (.bipush 7, 2) := by decide +kernel
theorem dX4_init_67 : decode cX4_init 67 = .ok (.newarray .int, 2) := by decide +kernel
theorem dX4_init_69 : decode cX4_init 69 = .ok (.putfield 40, 3) := by decide +kernel
theorem dX4_init_72 : decode cX4_init 72 = .ok (.return_, 1) := by decide +kernel
theorem dX4_set_0 : decode cX4_set 0 = .ok (.iload_n 1, 1) := by decide +kernel
theorem dX4_set_1 : decode cX4_set 1 = .ok (.iconst 0, 1) := by decide +kernel
theorem dX4_set_2 : decode cX4_set 2 = .ok (.iconst 2, 1) := by decide +kernel
theorem dX4_set_3 : decode cX4_set 3 = .ok (.invokestatic 44, 3) := by decide +kernel
theorem dX4_set_6 : decode cX4_set 6 = .ok (.ifCond .eq 16, 3) := by decide +kernel
theorem dX4_set_9 : decode cX4_set 9 = .ok (.iload_n 2, 1) := by decide +kernel
theorem dX4_set_10 : decode cX4_set 10 = .ok (.iconst 0, 1) := by decide +kernel
theorem dX4_set_11 : decode cX4_set 11 = .ok (.getstatic 48, 3) := by decide +kernel
theorem dX4_set_14 : decode cX4_set 14 = .ok (.iload_n 1, 1) := by decide +kernel
theorem dX4_set_15 : decode cX4_set 15 = .ok (.iaload, 1) := by decide +kernel
theorem dX4_set_16 : decode cX4_set 16 = .ok (.invokestatic 44, 3) := by decide +kernel
theorem dX4_set_19 : decode cX4_set 19 = .ok (.ifCond .ne 9, 3) := by decide +kernel
theorem dX4_set_22 : decode cX4_set 22 = .ok (.aload_n 0, 1) := by decide +kernel
theorem dX4_set_23 : decode cX4_set 23 = .ok (.iconst 0, 1) := by decide +kernel
theorem dX4_set_24 : decode cX4_set 24 = .ok (.invokevirtual 51, 3) := by decide +kernel
theorem dX4_set_27 : decode cX4_set 27 = .ok (.ireturn, 1) := by decide +kernel
theorem dX4_set_28 : decode cX4_set 28 = .ok (.iload_n 1, 1) := by decide +kernel
theorem dX4_set_29 : decode cX4_set 29 = .ok (.ifCond .ne 22, 3) := by decide +kernel
theorem dX4_set_32 : decode cX4_set 32 = .ok (.aload_n 0, 1) := by decide +kernel
theorem dX4_set_33 : decode cX4_set 33 = .ok (.getfield 10, 3) := by decide +kernel
theorem dX4_set_36 : decode cX4_set 36 = .ok (.getfield 55, 3) := by decide +kernel
theorem dX4_set_39 : decode cX4_set 39 = .ok (.istore_n 3, 1) := by decide +kernel
theorem dX4_set_40 : decode cX4_set 40 = .ok (.aload_n 0, 1) := by decide +kernel
theorem dX4_set_41 : decode cX4_set 41 = .ok (.getfield 10, 3) := by decide +kernel
theorem dX4_set_44 : decode cX4_set 44 = .ok (.iload_n 2, 1) := by decide +kernel
theorem dX4_set_45 : decode cX4_set 45 = .ok (.putfield 55, 3) := by decide +kernel
theorem dX4_set_48 : decode cX4_set 48 = .ok (.goto 43, 3) := by decide +kernel
theorem dX4_set_51 : decode cX4_set 51 = .ok (.iload_n 1, 1) := by decide +kernel
theorem dX4_set_52 : decode cX4_set 52 = .ok (.iconst 1, 1) := by decide +kernel
theorem dX4_set_53 : decode cX4_set 53 = .ok (.if_icmp .ne 22, 3) := by decide +kernel
theorem dX4_set_56 : decode cX4_set 56 = .ok (.aload_n 0, 1) := by decide +kernel
theorem dX4_set_57 : decode cX4_set 57 = .ok (.getfield 10, 3) := by decide +kernel
theorem dX4_set_60 : decode cX4_set 60 = .ok (.getfield 59, 3) := by decide +kernel
theorem dX4_set_63 : decode cX4_set 63 = .ok (.istore_n 3, 1) := by decide +kernel
theorem dX4_set_64 : decode cX4_set 64 = .ok (.aload_n 0, 1) := by decide +kernel
theorem dX4_set_65 : decode cX4_set 65 = .ok (.getfield 10, 3) := by decide +kernel
theorem dX4_set_68 : decode cX4_set 68 = .ok (.iload_n 2, 1) := by decide +kernel
theorem dX4_set_69 : decode cX4_set 69 = .ok (.putfield 59, 3) := by decide +kernel
theorem dX4_set_72 : decode cX4_set 72 = .ok (.goto 19, 3) := by decide +kernel
theorem dX4_set_75 : decode cX4_set 75 = .ok (.aload_n 0, 1) := by decide +kernel
theorem dX4_set_76 : decode cX4_set 76 = .ok (.getfield 10, 3) := by decide +kernel
theorem dX4_set_79 : decode cX4_set 79 = .ok (.getfield 62, 3) := by decide +kernel
theorem dX4_set_82 : decode cX4_set 82 = .ok (.istore_n 3, 1) := by decide +kernel
theorem dX4_set_83 : decode cX4_set 83 = .ok (.aload_n 0, 1) := by decide +kernel
theorem dX4_set_84 : decode cX4_set 84 = .ok (.getfield 10, 3) := by decide +kernel
theorem dX4_set_87 : decode cX4_set 87 = .ok (.iload_n 2, 1) := by decide +kernel
theorem dX4_set_88 : decode cX4_set 88 = .ok (.putfield 62, 3) := by decide +kernel
theorem dX4_set_91 : decode cX4_set 91 = .ok (.iload_n 3, 1) := by decide +kernel
theorem dX4_set_92 : decode cX4_set 92 = .ok (.ireturn, 1) := by decide +kernel
theorem dX4_cell_0 : decode cX4_cell 0 = .ok (.iload_n 1, 1) := by decide +kernel
theorem dX4_cell_1 : decode cX4_cell 1 = .ok (.invokestatic 65, 3) := by decide +kernel
theorem dX4_cell_4 : decode cX4_cell 4 = .ok (.ifCond .eq 13, 3) := by decide +kernel
theorem dX4_cell_7 : decode cX4_cell 7 = .ok (.iload_n 2, 1) := by decide +kernel
theorem dX4_cell_8 : decode cX4_cell 8 = .ok (.iconst 0, 1) := by decide +kernel
theorem dX4_cell_9 : decode cX4_cell 9 = .ok (.bipush 40, 2) := by decide +kernel
theorem dX4_cell_11 : decode cX4_cell 11 = .ok (.invokestatic 44, 3) := by decide +kernel
theorem dX4_cell_14 : decode cX4_cell 14 = .ok (.ifCond .ne 9, 3) := by decide +kernel
theorem dX4_cell_17 : decode cX4_cell 17 = .ok (.aload_n 0, 1) := by decide +kernel
theorem dX4_cell_18 : decode cX4_cell 18 = .ok (.iconst 0, 1) := by decide +kernel
theorem dX4_cell_19 : decode cX4_cell 19 = .ok (.invokevirtual 51, 3) := by decide +kernel
theorem dX4_cell_22 : decode cX4_cell 22 = .ok (.ireturn, 1) := by decide +kernel
theorem dX4_cell_23 : decode cX4_cell 23 = .ok (.aload_n 0, 1) := by decide +kernel
theorem dX4_cell_24 : decode cX4_cell 24 = .ok (.getfield 10, 3) := by decide +kernel
theorem dX4_cell_27 : decode cX4_cell 27 = .ok (.getfield 69, 3) := by decide +kernel
theorem dX4_cell_30 : decode cX4_cell 30 = .ok (.iload_n 1, 1) := by decide +kernel
theorem dX4_cell_31 : decode cX4_cell 31 = .ok (.iaload, 1) := by decide +kernel
theorem dX4_cell_32 : decode cX4_cell 32 = .ok (.istore_n 3, 1) := by decide +kernel
theorem dX4_cell_33 : decode cX4_cell 33 = .ok (.aload_n 0, 1) := by decide +kernel
theorem dX4_cell_34 : decode cX4_cell 34 = .ok (.getfield 10, 3) := by decide +kernel
theorem dX4_cell_37 : decode cX4_cell 37 = .ok (.getfield 69, 3) := by decide +kernel
theorem dX4_cell_40 : decode cX4_cell 40 = .ok (.iload_n 1, 1) := by decide +kernel
theorem dX4_cell_41 : decode cX4_cell 41 = .ok (.iload_n 2, 1) := by decide +kernel
theorem dX4_cell_42 : decode cX4_cell 42 = .ok (.iastore, 1) := by decide +kernel
theorem dX4_cell_43 : decode cX4_cell 43 = .ok (.iload_n 3, 1) := by decide +kernel
theorem dX4_cell_44 : decode cX4_cell 44 = .ok (.ireturn, 1) := by decide +kernel
theorem dX4_measure_0 : decode cX4_measure 0 = .ok (.iload_n 1, 1) := by decide +kernel
theorem dX4_measure_1 : decode cX4_measure 1 = .ok (.invokestatic 72, 3) := by decide +kernel
theorem dX4_measure_4 : decode cX4_measure 4 = .ok (.ifCond .eq 10, 3) := by decide +kernel
theorem dX4_measure_7 : decode cX4_measure 7 = .ok (.iload_n 2, 1) := by decide +kernel
theorem dX4_measure_8 : decode cX4_measure 8 = .ok (.invokestatic 75, 3) := by decide +kernel
theorem dX4_measure_11 : decode cX4_measure 11 = .ok (.ifCond .ne 9, 3) := by decide +kernel
theorem dX4_measure_14 : decode cX4_measure 14 = .ok (.aload_n 0, 1) := by decide +kernel
theorem dX4_measure_15 : decode cX4_measure 15 = .ok (.iconst 0, 1) := by decide +kernel
theorem dX4_measure_16 : decode cX4_measure 16 = .ok (.invokevirtual 51, 3) := by decide +kernel
theorem dX4_measure_19 : decode cX4_measure 19 = .ok (.ireturn, 1) := by decide +kernel
theorem dX4_measure_20 : decode cX4_measure 20 = .ok (.aload_n 0, 1) := by decide +kernel
theorem dX4_measure_21 : decode cX4_measure 21 = .ok (.getfield 10, 3) := by decide +kernel
theorem dX4_measure_24 : decode cX4_measure 24 = .ok (.getfield 78, 3) := by decide +kernel
theorem dX4_measure_27 : decode cX4_measure 27 = .ok (.iload_n 1, 1) := by decide +kernel
theorem dX4_measure_28 : decode cX4_measure 28 = .ok (.iaload, 1) := by decide +kernel
theorem dX4_measure_29 : decode cX4_measure 29 = .ok (.istore_n 3, 1) := by decide +kernel
theorem dX4_measure_30 : decode cX4_measure 30 = .ok (.aload_n 0, 1) := by decide +kernel
theorem dX4_measure_31 : decode cX4_measure 31 = .ok (.getfield 10, 3) := by decide +kernel
theorem dX4_measure_34 : decode cX4_measure 34 = .ok (.getfield 78, 3) := by decide +kernel
theorem dX4_measure_37 : decode cX4_measure 37 = .ok (.iload_n 1, 1) := by decide +kernel
theorem dX4_measure_38 : decode cX4_measure 38 = .ok (.iload_n 2, 1) := by decide +kernel
theorem dX4_measure_39 : decode cX4_measure 39 = .ok (.iastore, 1) := by decide +kernel
theorem dX4_measure_40 : decode cX4_measure 40 = .ok (.iload_n 3, 1) := by decide +kernel
theorem dX4_measure_41 : decode cX4_measure 41 = .ok (.ireturn, 1) := by decide +kernel
theorem dX4_listed_0 : decode cX4_listed 0 = .ok (.iload_n 1, 1) := by decide +kernel
theorem dX4_listed_1 : decode cX4_listed 1 = .ok (.invokestatic 72, 3) := by decide +kernel
theorem dX4_listed_4 : decode cX4_listed 4 = .ok (.ifCond .eq 15, 3) := by decide +kernel
theorem dX4_listed_7 : decode cX4_listed 7 = .ok (.aload_n 0, 1) := by decide +kernel
theorem dX4_listed_8 : decode cX4_listed 8 = .ok (.getfield 10, 3) := by decide +kernel
theorem dX4_listed_11 : decode cX4_listed 11 = .ok (.getfield 78, 3) := by decide +kernel
theorem dX4_listed_14 : decode cX4_listed 14 = .ok (.iload_n 1, 1) := by decide +kernel
theorem dX4_listed_15 : decode cX4_listed 15 = .ok (.iaload, 1) := by decide +kernel
theorem dX4_listed_16 : decode cX4_listed 16 = .ok (.goto 8, 3) := by decide +kernel
theorem dX4_listed_19 : decode cX4_listed 19 = .ok (.aload_n 0, 1) := by decide +kernel
theorem dX4_listed_20 : decode cX4_listed 20 = .ok (.iconst 0, 1) := by decide +kernel
theorem dX4_listed_21 : decode cX4_listed 21 = .ok (.invokevirtual 51, 3) := by decide +kernel
theorem dX4_listed_24 : decode cX4_listed 24 = .ok (.ireturn, 1) := by decide +kernel
theorem dX4_wide_0 : decode cX4_wide 0 = .ok (.iload_n 1, 1) := by decide +kernel
theorem dX4_wide_1 : decode cX4_wide 1 = .ok (.invokestatic 65, 3) := by decide +kernel
theorem dX4_wide_4 : decode cX4_wide 4 = .ok (.ifCond .eq 10, 3) := by decide +kernel
theorem dX4_wide_7 : decode cX4_wide 7 = .ok (.iload_n 2, 1) := by decide +kernel
theorem dX4_wide_8 : decode cX4_wide 8 = .ok (.invokestatic 75, 3) := by decide +kernel
theorem dX4_wide_11 : decode cX4_wide 11 = .ok (.ifCond .ne 9, 3) := by decide +kernel
theorem dX4_wide_14 : decode cX4_wide 14 = .ok (.aload_n 0, 1) := by decide +kernel
theorem dX4_wide_15 : decode cX4_wide 15 = .ok (.iconst 0, 1) := by decide +kernel
theorem dX4_wide_16 : decode cX4_wide 16 = .ok (.invokevirtual 51, 3) := by decide +kernel
theorem dX4_wide_19 : decode cX4_wide 19 = .ok (.ireturn, 1) := by decide +kernel
theorem dX4_wide_20 : decode cX4_wide 20 = .ok (.aload_n 0, 1) := by decide +kernel
theorem dX4_wide_21 : decode cX4_wide 21 = .ok (.getfield 10, 3) := by decide +kernel
theorem dX4_wide_24 : decode cX4_wide 24 = .ok (.iload_n 1, 1) := by decide +kernel
theorem dX4_wide_25 : decode cX4_wide 25 = .ok (.iload_n 2, 1) := by decide +kernel
theorem dX4_wide_26 : decode cX4_wide 26 = .ok (.invokevirtual 81, 3) := by decide +kernel
theorem dX4_wide_29 : decode cX4_wide 29 = .ok (.ireturn, 1) := by decide +kernel
theorem dX4_guest_0 : decode cX4_guest 0 = .ok (.iload_n 1, 1) := by decide +kernel
theorem dX4_guest_1 : decode cX4_guest 1 = .ok (.invokestatic 85, 3) := by decide +kernel
theorem dX4_guest_4 : decode cX4_guest 4 = .ok (.ifCond .eq 10, 3) := by decide +kernel
theorem dX4_guest_7 : decode cX4_guest 7 = .ok (.iload_n 2, 1) := by decide +kernel
theorem dX4_guest_8 : decode cX4_guest 8 = .ok (.invokestatic 65, 3) := by decide +kernel
theorem dX4_guest_11 : decode cX4_guest 11 = .ok (.ifCond .ne 9, 3) := by decide +kernel
theorem dX4_guest_14 : decode cX4_guest 14 = .ok (.aload_n 0, 1) := by decide +kernel
theorem dX4_guest_15 : decode cX4_guest 15 = .ok (.iconst 0, 1) := by decide +kernel
theorem dX4_guest_16 : decode cX4_guest 16 = .ok (.invokevirtual 51, 3) := by decide +kernel
theorem dX4_guest_19 : decode cX4_guest 19 = .ok (.ireturn, 1) := by decide +kernel
theorem dX4_guest_20 : decode cX4_guest 20 = .ok (.aload_n 0, 1) := by decide +kernel
theorem dX4_guest_21 : decode cX4_guest 21 = .ok (.getfield 10, 3) := by decide +kernel
theorem dX4_guest_24 : decode cX4_guest 24 = .ok (.invokevirtual 88, 3) := by decide +kernel
theorem dX4_guest_27 : decode cX4_guest 27 = .ok (.ifCond .eq 9, 3) := by decide +kernel
theorem dX4_guest_30 : decode cX4_guest 30 = .ok (.aload_n 0, 1) := by decide +kernel
theorem dX4_guest_31 : decode cX4_guest 31 = .ok (.iconst 1, 1) := by decide +kernel
theorem dX4_guest_32 : decode cX4_guest 32 = .ok (.invokevirtual 51, 3) := by decide +kernel
theorem dX4_guest_35 : decode cX4_guest 35 = .ok (.ireturn, 1) := by decide +kernel
theorem dX4_guest_36 : decode cX4_guest 36 = .ok (.aload_n 0, 1) := by decide +kernel
theorem dX4_guest_37 : decode cX4_guest 37 = .ok (.getfield 10, 3) := by decide +kernel
theorem dX4_guest_40 : decode cX4_guest 40 = .ok (.iload_n 1, 1) := by decide +kernel
theorem dX4_guest_41 : decode cX4_guest 41 = .ok (.iload_n 2, 1) := by decide +kernel
theorem dX4_guest_42 : decode cX4_guest 42 = .ok (.invokevirtual 92, 3) := by decide +kernel
theorem dX4_guest_45 : decode cX4_guest 45 = .ok (.ireturn, 1) := by decide +kernel
theorem dX4_of_0 : decode cX4_of 0 = .ok (.aload_n 0, 1) := by decide +kernel
theorem dX4_of_1 : decode cX4_of 1 = .ok (.iload_n 1, 1) := by decide +kernel
theorem dX4_of_2 : decode cX4_of 2 = .ok (.invokevirtual 95, 3) := by decide +kernel
theorem dX4_of_5 : decode cX4_of 5 = .ok (.ifCond .eq 13, 3) := by decide +kernel
theorem dX4_of_8 : decode cX4_of 8 = .ok (.iload_n 2, 1) := by decide +kernel
theorem dX4_of_9 : decode cX4_of 9 = .ok (.iconst 0, 1) := by decide +kernel
theorem dX4_of_10 : decode cX4_of 10 = .ok (.bipush 9, 2) := by decide +kernel
theorem dX4_of_12 : decode cX4_of 12 = .ok (.invokestatic 44, 3) := by decide +kernel
theorem dX4_of_15 : decode cX4_of 15 = .ok (.ifCond .ne 9, 3) := by decide +kernel
theorem dX4_of_18 : decode cX4_of 18 = .ok (.aload_n 0, 1) := by decide +kernel
theorem dX4_of_19 : decode cX4_of 19 = .ok (.iconst 0, 1) := by decide +kernel
theorem dX4_of_20 : decode cX4_of 20 = .ok (.invokevirtual 51, 3) := by decide +kernel
theorem dX4_of_23 : decode cX4_of 23 = .ok (.ireturn, 1) := by decide +kernel
theorem dX4_of_24 : decode cX4_of 24 = .ok (.iload_n 2, 1) := by decide +kernel
theorem dX4_of_25 : decode cX4_of 25 = .ok (.tableswitch 86 6 9 #[31, 40, 53, 73], 31) := by decide +kernel
theorem dX4_of_56 : decode cX4_of 56 = .ok (.aload_n 0, 1) := by decide +kernel
theorem dX4_of_57 : decode cX4_of 57 = .ok (.getfield 10, 3) := by decide +kernel
theorem dX4_of_60 : decode cX4_of 60 = .ok (.iload_n 1, 1) := by decide +kernel
theorem dX4_of_61 : decode cX4_of 61 = .ok (.invokevirtual 98, 3) := by decide +kernel
theorem dX4_of_64 : decode cX4_of 64 = .ok (.ireturn, 1) := by decide +kernel
theorem dX4_of_65 : decode cX4_of 65 = .ok (.aload_n 0, 1) := by decide +kernel
theorem dX4_of_66 : decode cX4_of 66 = .ok (.getfield 10, 3) := by decide +kernel
theorem dX4_of_69 : decode cX4_of 69 = .ok (.getfield 101, 3) := by decide +kernel
theorem dX4_of_72 : decode cX4_of 72 = .ok (.iload_n 1, 1) := by decide +kernel
theorem dX4_of_73 : decode cX4_of 73 = .ok (.iaload, 1) := by decide +kernel
theorem dX4_of_74 : decode cX4_of 74 = .ok (.invokestatic 104, 3) := by decide +kernel
theorem dX4_of_77 : decode cX4_of 77 = .ok (.ireturn, 1) := by decide +kernel
theorem dX4_of_78 : decode cX4_of 78 = .ok (.aload_n 0, 1) := by decide +kernel
theorem dX4_of_79 : decode cX4_of 79 = .ok (.getfield 10, 3) := by decide +kernel
theorem dX4_of_82 : decode cX4_of 82 = .ok (.getfield 101, 3) := by decide +kernel
theorem dX4_of_85 : decode cX4_of 85 = .ok (.iload_n 1, 1) := by decide +kernel
theorem dX4_of_86 : decode cX4_of 86 = .ok (.iaload, 1) := by decide +kernel
theorem dX4_of_87 : decode cX4_of 87 = .ok (.aload_n 0, 1) := by decide +kernel
theorem dX4_of_88 : decode cX4_of 88 = .ok (.getfield 10, 3) := by decide +kernel
theorem dX4_of_91 : decode cX4_of 91 = .ok (.getfield 109, 3) := by decide +kernel
theorem dX4_of_94 : decode cX4_of 94 = .ok (.invokestatic 112, 3) := by decide +kernel
theorem dX4_of_97 : decode cX4_of 97 = .ok (.ireturn, 1) := by decide +kernel
theorem dX4_of_98 : decode cX4_of 98 = .ok (.aload_n 0, 1) := by decide +kernel
theorem dX4_of_99 : decode cX4_of 99 = .ok (.getfield 10, 3) := by decide +kernel
theorem dX4_of_102 : decode cX4_of 102 = .ok (.getfield 101, 3) := by decide +kernel
theorem dX4_of_105 : decode cX4_of 105 = .ok (.iload_n 1, 1) := by decide +kernel
theorem dX4_of_106 : decode cX4_of 106 = .ok (.iaload, 1) := by decide +kernel
theorem dX4_of_107 : decode cX4_of 107 = .ok (.invokestatic 115, 3) := by decide +kernel
theorem dX4_of_110 : decode cX4_of 110 = .ok (.ireturn, 1) := by decide +kernel
theorem dX4_of_111 : decode cX4_of 111 = .ok (.aload_n 0, 1) := by decide +kernel
theorem dX4_of_112 : decode cX4_of 112 = .ok (.getfield 10, 3) := by decide +kernel
theorem dX4_of_115 : decode cX4_of 115 = .ok (.iload_n 2, 1) := by decide +kernel
theorem dX4_of_116 : decode cX4_of 116 = .ok (.invokevirtual 118, 3) := by decide +kernel
theorem dX4_of_119 : decode cX4_of 119 = .ok (.iload_n 1, 1) := by decide +kernel
theorem dX4_of_120 : decode cX4_of 120 = .ok (.iaload, 1) := by decide +kernel
theorem dX4_of_121 : decode cX4_of 121 = .ok (.ireturn, 1) := by decide +kernel
theorem dX4_change_0 : decode cX4_change 0 = .ok (.aload_n 0, 1) := by decide +kernel
theorem dX4_change_1 : decode cX4_change 1 = .ok (.iload_n 1, 1) := by decide +kernel
theorem dX4_change_2 : decode cX4_change 2 = .ok (.invokevirtual 95, 3) := by decide +kernel
theorem dX4_change_5 : decode cX4_change 5 = .ok (.ifCond .eq 29, 3) := by decide +kernel
theorem dX4_change_8 : decode cX4_change 8 = .ok (.iload_n 2, 1) := by decide +kernel
theorem dX4_change_9 : decode cX4_change 9 = .ok (.iconst 0, 1) := by decide +kernel
theorem dX4_change_10 : decode cX4_change 10 = .ok (.iconst 5, 1) := by decide +kernel
theorem dX4_change_11 : decode cX4_change 11 = .ok (.invokestatic 44, 3) := by decide +kernel
theorem dX4_change_14 : decode cX4_change 14 = .ok (.ifCond .eq 20, 3) := by decide +kernel
theorem dX4_change_17 : decode cX4_change 17 = .ok (.iload_n 3, 1) := by decide +kernel
theorem dX4_change_18 : decode cX4_change 18 = .ok (.getstatic 122, 3) := by decide +kernel
theorem dX4_change_21 : decode cX4_change 21 = .ok (.iload_n 2, 1) := by decide +kernel
theorem dX4_change_22 : decode cX4_change 22 = .ok (.iaload, 1) := by decide +kernel
theorem dX4_change_23 : decode cX4_change 23 = .ok (.getstatic 125, 3) := by decide +kernel
theorem dX4_change_26 : decode cX4_change 26 = .ok (.iload_n 2, 1) := by decide +kernel
theorem dX4_change_27 : decode cX4_change 27 = .ok (.iaload, 1) := by decide +kernel
theorem dX4_change_28 : decode cX4_change 28 = .ok (.invokestatic 44, 3) := by decide +kernel
theorem dX4_change_31 : decode cX4_change 31 = .ok (.ifCond .ne 9, 3) := by decide +kernel
theorem dX4_change_34 : decode cX4_change 34 = .ok (.aload_n 0, 1) := by decide +kernel
theorem dX4_change_35 : decode cX4_change 35 = .ok (.iconst 0, 1) := by decide +kernel
theorem dX4_change_36 : decode cX4_change 36 = .ok (.invokevirtual 51, 3) := by decide +kernel
theorem dX4_change_39 : decode cX4_change 39 = .ok (.ireturn, 1) := by decide +kernel
theorem dX4_change_40 : decode cX4_change 40 = .ok (.aload_n 0, 1) := by decide +kernel
theorem dX4_change_41 : decode cX4_change 41 = .ok (.getfield 10, 3) := by decide +kernel
theorem dX4_change_44 : decode cX4_change 44 = .ok (.iload_n 2, 1) := by decide +kernel
theorem dX4_change_45 : decode cX4_change 45 = .ok (.invokevirtual 118, 3) := by decide +kernel
theorem dX4_change_48 : decode cX4_change 48 = .ok (.astore 4, 2) := by decide +kernel
theorem dX4_change_50 : decode cX4_change 50 = .ok (.aload 4, 2) := by decide +kernel
theorem dX4_change_52 : decode cX4_change 52 = .ok (.iload_n 1, 1) := by decide +kernel
theorem dX4_change_53 : decode cX4_change 53 = .ok (.iaload, 1) := by decide +kernel
theorem dX4_change_54 : decode cX4_change 54 = .ok (.istore 5, 2) := by decide +kernel
theorem dX4_change_56 : decode cX4_change 56 = .ok (.aload 4, 2) := by decide +kernel
theorem dX4_change_58 : decode cX4_change 58 = .ok (.iload_n 1, 1) := by decide +kernel
theorem dX4_change_59 : decode cX4_change 59 = .ok (.iload_n 3, 1) := by decide +kernel
theorem dX4_change_60 : decode cX4_change 60 = .ok (.iastore, 1) := by decide +kernel
theorem dX4_change_61 : decode cX4_change 61 = .ok (.iload 5, 2) := by decide +kernel
theorem dX4_change_63 : decode cX4_change 63 = .ok (.ireturn, 1) := by decide +kernel
theorem dX4_reach_0 : decode cX4_reach 0 = .ok (.aload_n 0, 1) := by decide +kernel
theorem dX4_reach_1 : decode cX4_reach 1 = .ok (.iload_n 1, 1) := by decide +kernel
theorem dX4_reach_2 : decode cX4_reach 2 = .ok (.invokevirtual 95, 3) := by decide +kernel
theorem dX4_reach_5 : decode cX4_reach 5 = .ok (.ifCond .eq 10, 3) := by decide +kernel
theorem dX4_reach_8 : decode cX4_reach 8 = .ok (.iload_n 2, 1) := by decide +kernel
theorem dX4_reach_9 : decode cX4_reach 9 = .ok (.invokestatic 75, 3) := by decide +kernel
theorem dX4_reach_12 : decode cX4_reach 12 = .ok (.ifCond .ne 9, 3) := by decide +kernel
theorem dX4_reach_15 : decode cX4_reach 15 = .ok (.aload_n 0, 1) := by decide +kernel
theorem dX4_reach_16 : decode cX4_reach 16 = .ok (.iconst 0, 1) := by decide +kernel
theorem dX4_reach_17 : decode cX4_reach 17 = .ok (.invokevirtual 51, 3) := by decide +kernel
theorem dX4_reach_20 : decode cX4_reach 20 = .ok (.ireturn, 1) := by decide +kernel
theorem dX4_reach_21 : decode cX4_reach 21 = .ok (.aload_n 0, 1) := by decide +kernel
theorem dX4_reach_22 : decode cX4_reach 22 = .ok (.getfield 10, 3) := by decide +kernel
theorem dX4_reach_25 : decode cX4_reach 25 = .ok (.iload_n 1, 1) := by decide +kernel
theorem dX4_reach_26 : decode cX4_reach 26 = .ok (.iload_n 2, 1) := by decide +kernel
theorem dX4_reach_27 : decode cX4_reach 27 = .ok (.invokevirtual 128, 3) := by decide +kernel
theorem dX4_reach_30 : decode cX4_reach 30 = .ok (.ireturn, 1) := by decide +kernel
theorem dX4_go_0 : decode cX4_go 0 = .ok (.iload_n 1, 1) := by decide +kernel
theorem dX4_go_1 : decode cX4_go 1 = .ok (.iconst 1, 1) := by decide +kernel
theorem dX4_go_2 : decode cX4_go 2 = .ok (.bipush 60, 2) := by decide +kernel
theorem dX4_go_4 : decode cX4_go 4 = .ok (.invokestatic 44, 3) := by decide +kernel
theorem dX4_go_7 : decode cX4_go 7 = .ok (.ifCond .ne 9, 3) := by decide +kernel
theorem dX4_go_10 : decode cX4_go 10 = .ok (.aload_n 0, 1) := by decide +kernel
theorem dX4_go_11 : decode cX4_go 11 = .ok (.iconst 0, 1) := by decide +kernel
theorem dX4_go_12 : decode cX4_go 12 = .ok (.invokevirtual 51, 3) := by decide +kernel
theorem dX4_go_15 : decode cX4_go 15 = .ok (.ireturn, 1) := by decide +kernel
theorem dX4_go_16 : decode cX4_go 16 = .ok (.aload_n 0, 1) := by decide +kernel
theorem dX4_go_17 : decode cX4_go 17 = .ok (.getfield 10, 3) := by decide +kernel
theorem dX4_go_20 : decode cX4_go 20 = .ok (.getfield 109, 3) := by decide +kernel
theorem dX4_go_23 : decode cX4_go 23 = .ok (.iload_n 1, 1) := by decide +kernel
theorem dX4_go_24 : decode cX4_go 24 = .ok (.iadd, 1) := by decide +kernel
theorem dX4_go_25 : decode cX4_go 25 = .ok (.ldc 131, 2) := by decide +kernel
theorem dX4_go_27 : decode cX4_go 27 = .ok (.if_icmp .le 9, 3) := by decide +kernel
theorem dX4_go_30 : decode cX4_go 30 = .ok (.aload_n 0, 1) := by decide +kernel
theorem dX4_go_31 : decode cX4_go 31 = .ok (.iconst 4, 1) := by decide +kernel
theorem dX4_go_32 : decode cX4_go 32 = .ok (.invokevirtual 51, 3) := by decide +kernel
theorem dX4_go_35 : decode cX4_go 35 = .ok (.ireturn, 1) := by decide +kernel
theorem dX4_go_36 : decode cX4_go 36 = .ok (.aload_n 0, 1) := by decide +kernel
theorem dX4_go_37 : decode cX4_go 37 = .ok (.getfield 10, 3) := by decide +kernel
theorem dX4_go_40 : decode cX4_go 40 = .ok (.iload_n 1, 1) := by decide +kernel
theorem dX4_go_41 : decode cX4_go 41 = .ok (.invokevirtual 132, 3) := by decide +kernel
theorem dX4_go_44 : decode cX4_go 44 = .ok (.aload_n 0, 1) := by decide +kernel
theorem dX4_go_45 : decode cX4_go 45 = .ok (.getfield 10, 3) := by decide +kernel
theorem dX4_go_48 : decode cX4_go 48 = .ok (.getfield 59, 3) := by decide +kernel
theorem dX4_go_51 : decode cX4_go 51 = .ok (.ireturn, 1) := by decide +kernel
theorem dX4_now_0 : decode cX4_now 0 = .ok (.iload_n 1, 1) := by decide +kernel
theorem dX4_now_1 : decode cX4_now 1 = .ok (.tableswitch 111 0 7 #[47, 55, 63, 71, 79, 87, 95, 103], 47) := by decide +kernel
theorem dX4_now_48 : decode cX4_now 48 = .ok (.aload_n 0, 1) := by decide +kernel
theorem dX4_now_49 : decode cX4_now 49 = .ok (.getfield 10, 3) := by decide +kernel
theorem dX4_now_52 : decode cX4_now 52 = .ok (.getfield 109, 3) := by decide +kernel
theorem dX4_now_55 : decode cX4_now 55 = .ok (.ireturn, 1) := by decide +kernel
theorem dX4_now_56 : decode cX4_now 56 = .ok (.aload_n 0, 1) := by decide +kernel
theorem dX4_now_57 : decode cX4_now 57 = .ok (.getfield 10, 3) := by decide +kernel
theorem dX4_now_60 : decode cX4_now 60 = .ok (.invokevirtual 136, 3) := by decide +kernel
theorem dX4_now_63 : decode cX4_now 63 = .ok (.ireturn, 1) := by decide +kernel
theorem dX4_now_64 : decode cX4_now 64 = .ok (.aload_n 0, 1) := by decide +kernel
theorem dX4_now_65 : decode cX4_now 65 = .ok (.getfield 10, 3) := by decide +kernel
theorem dX4_now_68 : decode cX4_now 68 = .ok (.getfield 59, 3) := by decide +kernel
theorem dX4_now_71 : decode cX4_now 71 = .ok (.ireturn, 1) := by decide +kernel
theorem dX4_now_72 : decode cX4_now 72 = .ok (.aload_n 0, 1) := by decide +kernel
theorem dX4_now_73 : decode cX4_now 73 = .ok (.getfield 10, 3) := by decide +kernel
theorem dX4_now_76 : decode cX4_now 76 = .ok (.getfield 62, 3) := by decide +kernel
theorem dX4_now_79 : decode cX4_now 79 = .ok (.ireturn, 1) := by decide +kernel
theorem dX4_now_80 : decode cX4_now 80 = .ok (.aload_n 0, 1) := by decide +kernel
theorem dX4_now_81 : decode cX4_now 81 = .ok (.getfield 10, 3) := by decide +kernel
theorem dX4_now_84 : decode cX4_now 84 = .ok (.invokevirtual 140, 3) := by decide +kernel
theorem dX4_now_87 : decode cX4_now 87 = .ok (.ireturn, 1) := by decide +kernel
theorem dX4_now_88 : decode cX4_now 88 = .ok (.aload_n 0, 1) := by decide +kernel
theorem dX4_now_89 : decode cX4_now 89 = .ok (.getfield 10, 3) := by decide +kernel
theorem dX4_now_92 : decode cX4_now 92 = .ok (.invokevirtual 143, 3) := by decide +kernel
theorem dX4_now_95 : decode cX4_now 95 = .ok (.ireturn, 1) := by decide +kernel
theorem dX4_now_96 : decode cX4_now 96 = .ok (.aload_n 0, 1) := by decide +kernel
theorem dX4_now_97 : decode cX4_now 97 = .ok (.getfield 10, 3) := by decide +kernel
theorem dX4_now_100 : decode cX4_now 100 = .ok (.invokevirtual 146, 3) := by decide +kernel
theorem dX4_now_103 : decode cX4_now 103 = .ok (.ireturn, 1) := by decide +kernel
theorem dX4_now_104 : decode cX4_now 104 = .ok (.aload_n 0, 1) := by decide +kernel
theorem dX4_now_105 : decode cX4_now 105 = .ok (.getfield 10, 3) := by decide +kernel
theorem dX4_now_108 : decode cX4_now 108 = .ok (.invokevirtual 149, 3) := by decide +kernel
theorem dX4_now_111 : decode cX4_now 111 = .ok (.ireturn, 1) := by decide +kernel
theorem dX4_now_112 : decode cX4_now 112 = .ok (.aload_n 0, 1) := by decide +kernel
theorem dX4_now_113 : decode cX4_now 113 = .ok (.iconst 0, 1) := by decide +kernel
theorem dX4_now_114 : decode cX4_now 114 = .ok (.invokevirtual 51, 3) := by decide +kernel
theorem dX4_now_117 : decode cX4_now 117 = .ok (.ireturn, 1) := by decide +kernel
theorem dX4_ahead_0 : decode cX4_ahead 0 = .ok (.aload_n 0, 1) := by decide +kernel
theorem dX4_ahead_1 : decode cX4_ahead 1 = .ok (.iload_n 1, 1) := by decide +kernel
theorem dX4_ahead_2 : decode cX4_ahead 2 = .ok (.invokevirtual 95, 3) := by decide +kernel
theorem dX4_ahead_5 : decode cX4_ahead 5 = .ok (.ifCond .eq 29, 3) := by decide +kernel
theorem dX4_ahead_8 : decode cX4_ahead 8 = .ok (.iload_n 2, 1) := by decide +kernel
theorem dX4_ahead_9 : decode cX4_ahead 9 = .ok (.iconst 1, 1) := by decide +kernel
theorem dX4_ahead_10 : decode cX4_ahead 10 = .ok (.if_icmp .eq 14, 3) := by decide +kernel
theorem dX4_ahead_13 : decode cX4_ahead 13 = .ok (.iload_n 2, 1) := by decide +kernel
theorem dX4_ahead_14 : decode cX4_ahead 14 = .ok (.iconst 4, 1) := by decide +kernel
theorem dX4_ahead_15 : decode cX4_ahead 15 = .ok (.if_icmp .eq 9, 3) := by decide +kernel
theorem dX4_ahead_18 : decode cX4_ahead 18 = .ok (.iload_n 2, 1) := by decide +kernel
theorem dX4_ahead_19 : decode cX4_ahead 19 = .ok (.bipush 6, 2) := by decide +kernel
theorem dX4_ahead_21 : decode cX4_ahead 21 = .ok (.if_icmp .ne 13, 3) := by decide +kernel
theorem dX4_ahead_24 : decode cX4_ahead 24 = .ok (.iload_n 3, 1) := by decide +kernel
theorem dX4_ahead_25 : decode cX4_ahead 25 = .ok (.iconst 0, 1) := by decide +kernel
theorem dX4_ahead_26 : decode cX4_ahead 26 = .ok (.bipush 100, 2) := by decide +kernel
theorem dX4_ahead_28 : decode cX4_ahead 28 = .ok (.invokestatic 44, 3) := by decide +kernel
theorem dX4_ahead_31 : decode cX4_ahead 31 = .ok (.ifCond .ne 9, 3) := by decide +kernel
theorem dX4_ahead_34 : decode cX4_ahead 34 = .ok (.aload_n 0, 1) := by decide +kernel
theorem dX4_ahead_35 : decode cX4_ahead 35 = .ok (.iconst 0, 1) := by decide +kernel
theorem dX4_ahead_36 : decode cX4_ahead 36 = .ok (.invokevirtual 51, 3) := by decide +kernel
theorem dX4_ahead_39 : decode cX4_ahead 39 = .ok (.ireturn, 1) := by decide +kernel
theorem dX4_ahead_40 : decode cX4_ahead 40 = .ok (.aload_n 0, 1) := by decide +kernel
theorem dX4_ahead_41 : decode cX4_ahead 41 = .ok (.invokevirtual 152, 3) := by decide +kernel
theorem dX4_ahead_44 : decode cX4_ahead 44 = .ok (.aload_n 0, 1) := by decide +kernel
theorem dX4_ahead_45 : decode cX4_ahead 45 = .ok (.getfield 19, 3) := by decide +kernel
theorem dX4_ahead_48 : decode cX4_ahead 48 = .ok (.iload_n 3, 1) := by decide +kernel
theorem dX4_ahead_49 : decode cX4_ahead 49 = .ok (.invokevirtual 132, 3) := by decide +kernel
theorem dX4_ahead_52 : decode cX4_ahead 52 = .ok (.iload_n 2, 1) := by decide +kernel
theorem dX4_ahead_53 : decode cX4_ahead 53 = .ok (.bipush 6, 2) := by decide +kernel
theorem dX4_ahead_55 : decode cX4_ahead 55 = .ok (.if_icmp .ne 14, 3) := by decide +kernel
theorem dX4_ahead_58 : decode cX4_ahead 58 = .ok (.aload_n 0, 1) := by decide +kernel
theorem dX4_ahead_59 : decode cX4_ahead 59 = .ok (.getfield 19, 3) := by decide +kernel
theorem dX4_ahead_62 : decode cX4_ahead 62 = .ok (.iload_n 1, 1) := by decide +kernel
theorem dX4_ahead_63 : decode cX4_ahead 63 = .ok (.invokevirtual 98, 3) := by decide +kernel
theorem dX4_ahead_66 : decode cX4_ahead 66 = .ok (.goto 13, 3) := by decide +kernel
theorem dX4_ahead_69 : decode cX4_ahead 69 = .ok (.aload_n 0, 1) := by decide +kernel
theorem dX4_ahead_70 : decode cX4_ahead 70 = .ok (.getfield 19, 3) := by decide +kernel
theorem dX4_ahead_73 : decode cX4_ahead 73 = .ok (.iload_n 2, 1) := by decide +kernel
theorem dX4_ahead_74 : decode cX4_ahead 74 = .ok (.invokevirtual 118, 3) := by decide +kernel
theorem dX4_ahead_77 : decode cX4_ahead 77 = .ok (.iload_n 1, 1) := by decide +kernel
theorem dX4_ahead_78 : decode cX4_ahead 78 = .ok (.iaload, 1) := by decide +kernel
theorem dX4_ahead_79 : decode cX4_ahead 79 = .ok (.ireturn, 1) := by decide +kernel
theorem dX4_strain_0 : decode cX4_strain 0 = .ok (.iload_n 1, 1) := by decide +kernel
theorem dX4_strain_1 : decode cX4_strain 1 = .ok (.iconst 0, 1) := by decide +kernel
theorem dX4_strain_2 : decode cX4_strain 2 = .ok (.bipush 100, 2) := by decide +kernel
theorem dX4_strain_4 : decode cX4_strain 4 = .ok (.invokestatic 44, 3) := by decide +kernel
theorem dX4_strain_7 : decode cX4_strain 7 = .ok (.ifCond .ne 9, 3) := by decide +kernel
theorem dX4_strain_10 : decode cX4_strain 10 = .ok (.aload_n 0, 1) := by decide +kernel
theorem dX4_strain_11 : decode cX4_strain 11 = .ok (.iconst 0, 1) := by decide +kernel
theorem dX4_strain_12 : decode cX4_strain 12 = .ok (.invokevirtual 51, 3) := by decide +kernel
theorem dX4_strain_15 : decode cX4_strain 15 = .ok (.ireturn, 1) := by decide +kernel
theorem dX4_strain_16 : decode cX4_strain 16 = .ok (.aload_n 0, 1) := by decide +kernel
theorem dX4_strain_17 : decode cX4_strain 17 = .ok (.invokevirtual 152, 3) := by decide +kernel
theorem dX4_strain_20 : decode cX4_strain 20 = .ok (.aload_n 0, 1) := by decide +kernel
theorem dX4_strain_21 : decode cX4_strain 21 = .ok (.getfield 19, 3) := by decide +kernel
theorem dX4_strain_24 : decode cX4_strain 24 = .ok (.iload_n 1, 1) := by decide +kernel
theorem dX4_strain_25 : decode cX4_strain 25 = .ok (.invokevirtual 132, 3) := by decide +kernel
theorem dX4_strain_28 : decode cX4_strain 28 = .ok (.aload_n 0, 1) := by decide +kernel
theorem dX4_strain_29 : decode cX4_strain 29 = .ok (.getfield 19, 3) := by decide +kernel
theorem dX4_strain_32 : decode cX4_strain 32 = .ok (.getfield 59, 3) := by decide +kernel
theorem dX4_strain_35 : decode cX4_strain 35 = .ok (.ireturn, 1) := by decide +kernel
theorem dX4_snaps_0 : decode cX4_snaps 0 = .ok (.aload_n 0, 1) := by decide +kernel
theorem dX4_snaps_1 : decode cX4_snaps 1 = .ok (.invokevirtual 152, 3) := by decide +kernel
theorem dX4_snaps_4 : decode cX4_snaps 4 = .ok (.iconst 0, 1) := by decide +kernel
theorem dX4_snaps_5 : decode cX4_snaps 5 = .ok (.istore_n 1, 1) := by decide +kernel
theorem dX4_snaps_6 : decode cX4_snaps 6 = .ok (.iload_n 1, 1) := by decide +kernel
theorem dX4_snaps_7 : decode cX4_snaps 7 = .ok (.sipush 200, 3) := by decide +kernel
theorem dX4_snaps_10 : decode cX4_snaps 10 = .ok (.if_icmp .gt 29, 3) := by decide +kernel
theorem dX4_snaps_13 : decode cX4_snaps 13 = .ok (.aload_n 0, 1) := by decide +kernel
theorem dX4_snaps_14 : decode cX4_snaps 14 = .ok (.getfield 19, 3) := by decide +kernel
theorem dX4_snaps_17 : decode cX4_snaps 17 = .ok (.getfield 62, 3) := by decide +kernel
theorem dX4_snaps_20 : decode cX4_snaps 20 = .ok (.iconst 1, 1) := by decide +kernel
theorem dX4_snaps_21 : decode cX4_snaps 21 = .ok (.if_icmp .ne 5, 3) := by decide +kernel
theorem dX4_snaps_24 : decode cX4_snaps 24 = .ok (.iload_n 1, 1) := by decide +kernel
theorem dX4_snaps_25 : decode cX4_snaps 25 = .ok (.ireturn, 1) := by decide +kernel
theorem dX4_snaps_26 : decode cX4_snaps 26 = .ok (.aload_n 0, 1) := by decide +kernel
theorem dX4_snaps_27 : decode cX4_snaps 27 = .ok (.getfield 19, 3) := by decide +kernel
theorem dX4_snaps_30 : decode cX4_snaps 30 = .ok (.invokevirtual 155, 3) := by decide +kernel
theorem dX4_snaps_33 : decode cX4_snaps 33 = .ok (.iinc 1 1, 3) := by decide +kernel
theorem dX4_snaps_36 : decode cX4_snaps 36 = .ok (.goto (-30), 3) := by decide +kernel
theorem dX4_snaps_39 : decode cX4_snaps 39 = .ok (.aload_n 0, 1) := by decide +kernel
theorem dX4_snaps_40 : decode cX4_snaps 40 = .ok (.iconst 3, 1) := by decide +kernel
theorem dX4_snaps_41 : decode cX4_snaps 41 = .ok (.invokevirtual 51, 3) := by decide +kernel
theorem dX4_snaps_44 : decode cX4_snaps 44 = .ok (.ireturn, 1) := by decide +kernel
theorem dX4_comes_0 : decode cX4_comes 0 = .ok (.aload_n 0, 1) := by decide +kernel
theorem dX4_comes_1 : decode cX4_comes 1 = .ok (.iload_n 1, 1) := by decide +kernel
theorem dX4_comes_2 : decode cX4_comes 2 = .ok (.invokevirtual 95, 3) := by decide +kernel
theorem dX4_comes_5 : decode cX4_comes 5 = .ok (.ifCond .eq 10, 3) := by decide +kernel
theorem dX4_comes_8 : decode cX4_comes 8 = .ok (.iload_n 2, 1) := by decide +kernel
theorem dX4_comes_9 : decode cX4_comes 9 = .ok (.invokestatic 65, 3) := by decide +kernel
theorem dX4_comes_12 : decode cX4_comes 12 = .ok (.ifCond .ne 9, 3) := by decide +kernel
theorem dX4_comes_15 : decode cX4_comes 15 = .ok (.aload_n 0, 1) := by decide +kernel
theorem dX4_comes_16 : decode cX4_comes 16 = .ok (.iconst 0, 1) := by decide +kernel
theorem dX4_comes_17 : decode cX4_comes 17 = .ok (.invokevirtual 51, 3) := by decide +kernel
theorem dX4_comes_20 : decode cX4_comes 20 = .ok (.ireturn, 1) := by decide +kernel
theorem dX4_comes_21 : decode cX4_comes 21 = .ok (.aload_n 0, 1) := by decide +kernel
theorem dX4_comes_22 : decode cX4_comes 22 = .ok (.invokevirtual 152, 3) := by decide +kernel
theorem dX4_comes_25 : decode cX4_comes 25 = .ok (.iconst 0, 1) := by decide +kernel
theorem dX4_comes_26 : decode cX4_comes 26 = .ok (.istore_n 3, 1) := by decide +kernel
theorem dX4_comes_27 : decode cX4_comes 27 = .ok (.iload_n 3, 1) := by decide +kernel
theorem dX4_comes_28 : decode cX4_comes 28 = .ok (.sipush 200, 3) := by decide +kernel
theorem dX4_comes_31 : decode cX4_comes 31 = .ok (.if_icmp .gt 31, 3) := by decide +kernel
theorem dX4_comes_34 : decode cX4_comes 34 = .ok (.aload_n 0, 1) := by decide +kernel
theorem dX4_comes_35 : decode cX4_comes 35 = .ok (.getfield 19, 3) := by decide +kernel
theorem dX4_comes_38 : decode cX4_comes 38 = .ok (.getfield 158, 3) := by decide +kernel
theorem dX4_comes_41 : decode cX4_comes 41 = .ok (.iload_n 1, 1) := by decide +kernel
theorem dX4_comes_42 : decode cX4_comes 42 = .ok (.iaload, 1) := by decide +kernel
theorem dX4_comes_43 : decode cX4_comes 43 = .ok (.iload_n 2, 1) := by decide +kernel
theorem dX4_comes_44 : decode cX4_comes 44 = .ok (.if_icmp .ne 5, 3) := by decide +kernel
theorem dX4_comes_47 : decode cX4_comes 47 = .ok (.iload_n 3, 1) := by decide +kernel
theorem dX4_comes_48 : decode cX4_comes 48 = .ok (.ireturn, 1) := by decide +kernel
theorem dX4_comes_49 : decode cX4_comes 49 = .ok (.aload_n 0, 1) := by decide +kernel
theorem dX4_comes_50 : decode cX4_comes 50 = .ok (.getfield 19, 3) := by decide +kernel
theorem dX4_comes_53 : decode cX4_comes 53 = .ok (.invokevirtual 155, 3) := by decide +kernel
theorem dX4_comes_56 : decode cX4_comes 56 = .ok (.iinc 3 1, 3) := by decide +kernel
theorem dX4_comes_59 : decode cX4_comes 59 = .ok (.goto (-32), 3) := by decide +kernel
theorem dX4_comes_62 : decode cX4_comes 62 = .ok (.aload_n 0, 1) := by decide +kernel
theorem dX4_comes_63 : decode cX4_comes 63 = .ok (.iconst 3, 1) := by decide +kernel
theorem dX4_comes_64 : decode cX4_comes 64 = .ok (.invokevirtual 51, 3) := by decide +kernel
theorem dX4_comes_67 : decode cX4_comes 67 = .ok (.ireturn, 1) := by decide +kernel
theorem dX4_stuck_0 : decode cX4_stuck 0 = .ok (.aload_n 0, 1) := by decide +kernel
theorem dX4_stuck_1 : decode cX4_stuck 1 = .ok (.iload_n 1, 1) := by decide +kernel
theorem dX4_stuck_2 : decode cX4_stuck 2 = .ok (.invokevirtual 95, 3) := by decide +kernel
theorem dX4_stuck_5 : decode cX4_stuck 5 = .ok (.ifCond .eq 14, 3) := by decide +kernel
theorem dX4_stuck_8 : decode cX4_stuck 8 = .ok (.iload_n 2, 1) := by decide +kernel
theorem dX4_stuck_9 : decode cX4_stuck 9 = .ok (.iconst 0, 1) := by decide +kernel
theorem dX4_stuck_10 : decode cX4_stuck 10 = .ok (.sipush 9999, 3) := by decide +kernel
theorem dX4_stuck_13 : decode cX4_stuck 13 = .ok (.invokestatic 44, 3) := by decide +kernel
theorem dX4_stuck_16 : decode cX4_stuck 16 = .ok (.ifCond .ne 9, 3) := by decide +kernel
theorem dX4_stuck_19 : decode cX4_stuck 19 = .ok (.aload_n 0, 1) := by decide +kernel
theorem dX4_stuck_20 : decode cX4_stuck 20 = .ok (.iconst 0, 1) := by decide +kernel
theorem dX4_stuck_21 : decode cX4_stuck 21 = .ok (.invokevirtual 51, 3) := by decide +kernel
theorem dX4_stuck_24 : decode cX4_stuck 24 = .ok (.ireturn, 1) := by decide +kernel
theorem dX4_stuck_25 : decode cX4_stuck 25 = .ok (.aload_n 0, 1) := by decide +kernel
theorem dX4_stuck_26 : decode cX4_stuck 26 = .ok (.invokevirtual 152, 3) := by decide +kernel
theorem dX4_stuck_29 : decode cX4_stuck 29 = .ok (.iconst 0, 1) := by decide +kernel
theorem dX4_stuck_30 : decode cX4_stuck 30 = .ok (.istore_n 3, 1) := by decide +kernel
theorem dX4_stuck_31 : decode cX4_stuck 31 = .ok (.iload_n 3, 1) := by decide +kernel
theorem dX4_stuck_32 : decode cX4_stuck 32 = .ok (.sipush 200, 3) := by decide +kernel
theorem dX4_stuck_35 : decode cX4_stuck 35 = .ok (.if_icmp .gt 31, 3) := by decide +kernel
theorem dX4_stuck_38 : decode cX4_stuck 38 = .ok (.aload_n 0, 1) := by decide +kernel
theorem dX4_stuck_39 : decode cX4_stuck 39 = .ok (.getfield 19, 3) := by decide +kernel
theorem dX4_stuck_42 : decode cX4_stuck 42 = .ok (.getfield 161, 3) := by decide +kernel
theorem dX4_stuck_45 : decode cX4_stuck 45 = .ok (.iload_n 1, 1) := by decide +kernel
theorem dX4_stuck_46 : decode cX4_stuck 46 = .ok (.iaload, 1) := by decide +kernel
theorem dX4_stuck_47 : decode cX4_stuck 47 = .ok (.iload_n 2, 1) := by decide +kernel
theorem dX4_stuck_48 : decode cX4_stuck 48 = .ok (.if_icmp .lt 5, 3) := by decide +kernel
theorem dX4_stuck_51 : decode cX4_stuck 51 = .ok (.iload_n 3, 1) := by decide +kernel
theorem dX4_stuck_52 : decode cX4_stuck 52 = .ok (.ireturn, 1) := by decide +kernel
theorem dX4_stuck_53 : decode cX4_stuck 53 = .ok (.aload_n 0, 1) := by decide +kernel
theorem dX4_stuck_54 : decode cX4_stuck 54 = .ok (.getfield 19, 3) := by decide +kernel
theorem dX4_stuck_57 : decode cX4_stuck 57 = .ok (.invokevirtual 155, 3) := by decide +kernel
theorem dX4_stuck_60 : decode cX4_stuck 60 = .ok (.iinc 3 1, 3) := by decide +kernel
theorem dX4_stuck_63 : decode cX4_stuck 63 = .ok (.goto (-32), 3) := by decide +kernel
theorem dX4_stuck_66 : decode cX4_stuck 66 = .ok (.aload_n 0, 1) := by decide +kernel
theorem dX4_stuck_67 : decode cX4_stuck 67 = .ok (.iconst 3, 1) := by decide +kernel
theorem dX4_stuck_68 : decode cX4_stuck 68 = .ok (.invokevirtual 51, 3) := by decide +kernel
theorem dX4_stuck_71 : decode cX4_stuck 71 = .ok (.ireturn, 1) := by decide +kernel
theorem dX4_tight_0 : decode cX4_tight 0 = .ok (.iload_n 1, 1) := by decide +kernel
theorem dX4_tight_1 : decode cX4_tight 1 = .ok (.invokestatic 72, 3) := by decide +kernel
theorem dX4_tight_4 : decode cX4_tight 4 = .ok (.ifCond .eq 13, 3) := by decide +kernel
theorem dX4_tight_7 : decode cX4_tight 7 = .ok (.iload_n 2, 1) := by decide +kernel
theorem dX4_tight_8 : decode cX4_tight 8 = .ok (.iconst 0, 1) := by decide +kernel
theorem dX4_tight_9 : decode cX4_tight 9 = .ok (.bipush 60, 2) := by decide +kernel
theorem dX4_tight_11 : decode cX4_tight 11 = .ok (.invokestatic 44, 3) := by decide +kernel
theorem dX4_tight_14 : decode cX4_tight 14 = .ok (.ifCond .ne 9, 3) := by decide +kernel
theorem dX4_tight_17 : decode cX4_tight 17 = .ok (.aload_n 0, 1) := by decide +kernel
theorem dX4_tight_18 : decode cX4_tight 18 = .ok (.iconst 0, 1) := by decide +kernel
theorem dX4_tight_19 : decode cX4_tight 19 = .ok (.invokevirtual 51, 3) := by decide +kernel
theorem dX4_tight_22 : decode cX4_tight 22 = .ok (.ireturn, 1) := by decide +kernel
theorem dX4_tight_23 : decode cX4_tight 23 = .ok (.bipush 16, 2) := by decide +kernel
theorem dX4_tight_25 : decode cX4_tight 25 = .ok (.istore_n 3, 1) := by decide +kernel
theorem dX4_tight_26 : decode cX4_tight 26 = .ok (.iload_n 3, 1) := by decide +kernel
theorem dX4_tight_27 : decode cX4_tight 27 = .ok (.bipush 36, 2) := by decide +kernel
theorem dX4_tight_29 : decode cX4_tight 29 = .ok (.if_icmp .gt 36, 3) := by decide +kernel
theorem dX4_tight_32 : decode cX4_tight 32 = .ok (.aload_n 0, 1) := by decide +kernel
theorem dX4_tight_33 : decode cX4_tight 33 = .ok (.invokevirtual 152, 3) := by decide +kernel
theorem dX4_tight_36 : decode cX4_tight 36 = .ok (.aload_n 0, 1) := by decide +kernel
theorem dX4_tight_37 : decode cX4_tight 37 = .ok (.getfield 19, 3) := by decide +kernel
theorem dX4_tight_40 : decode cX4_tight 40 = .ok (.getfield 78, 3) := by decide +kernel
theorem dX4_tight_43 : decode cX4_tight 43 = .ok (.iload_n 1, 1) := by decide +kernel
theorem dX4_tight_44 : decode cX4_tight 44 = .ok (.iload_n 3, 1) := by decide +kernel
theorem dX4_tight_45 : decode cX4_tight 45 = .ok (.iastore, 1) := by decide +kernel
theorem dX4_tight_46 : decode cX4_tight 46 = .ok (.aload_n 0, 1) := by decide +kernel
theorem dX4_tight_47 : decode cX4_tight 47 = .ok (.getfield 19, 3) := by decide +kernel
theorem dX4_tight_50 : decode cX4_tight 50 = .ok (.iload_n 2, 1) := by decide +kernel
theorem dX4_tight_51 : decode cX4_tight 51 = .ok (.invokevirtual 164, 3) := by decide +kernel
theorem dX4_tight_54 : decode cX4_tight 54 = .ok (.ifCond .eq 5, 3) := by decide +kernel
theorem dX4_tight_57 : decode cX4_tight 57 = .ok (.iload_n 3, 1) := by decide +kernel
theorem dX4_tight_58 : decode cX4_tight 58 = .ok (.ireturn, 1) := by decide +kernel
theorem dX4_tight_59 : decode cX4_tight 59 = .ok (.iinc 3 1, 3) := by decide +kernel
theorem dX4_tight_62 : decode cX4_tight 62 = .ok (.goto (-36), 3) := by decide +kernel
theorem dX4_tight_65 : decode cX4_tight 65 = .ok (.aload_n 0, 1) := by decide +kernel
theorem dX4_tight_66 : decode cX4_tight 66 = .ok (.iconst 3, 1) := by decide +kernel
theorem dX4_tight_67 : decode cX4_tight 67 = .ok (.invokevirtual 51, 3) := by decide +kernel
theorem dX4_tight_70 : decode cX4_tight 70 = .ok (.ireturn, 1) := by decide +kernel
theorem dX4_measureFor_0 : decode cX4_measureFor 0 = .ok (.aload_n 0, 1) := by decide +kernel
theorem dX4_measureFor_1 : decode cX4_measureFor 1 = .ok (.iload_n 1, 1) := by decide +kernel
theorem dX4_measureFor_2 : decode cX4_measureFor 2 = .ok (.invokevirtual 95, 3) := by decide +kernel
theorem dX4_measureFor_5 : decode cX4_measureFor 5 = .ok (.ifCond .eq 10, 3) := by decide +kernel
theorem dX4_measureFor_8 : decode cX4_measureFor 8 = .ok (.iload_n 2, 1) := by decide +kernel
theorem dX4_measureFor_9 : decode cX4_measureFor 9 = .ok (.invokestatic 65, 3) := by decide +kernel
theorem dX4_measureFor_12 : decode cX4_measureFor 12 = .ok (.ifCond .ne 9, 3) := by decide +kernel
theorem dX4_measureFor_15 : decode cX4_measureFor 15 = .ok (.aload_n 0, 1) := by decide +kernel
theorem dX4_measureFor_16 : decode cX4_measureFor 16 = .ok (.iconst 0, 1) := by decide +kernel
theorem dX4_measureFor_17 : decode cX4_measureFor 17 = .ok (.invokevirtual 51, 3) := by decide +kernel
theorem dX4_measureFor_20 : decode cX4_measureFor 20 = .ok (.ireturn, 1) := by decide +kernel
theorem dX4_measureFor_21 : decode cX4_measureFor 21 = .ok (.bipush 16, 2) := by decide +kernel
theorem dX4_measureFor_23 : decode cX4_measureFor 23 = .ok (.istore_n 3, 1) := by decide +kernel
theorem dX4_measureFor_24 : decode cX4_measureFor 24 = .ok (.iload_n 3, 1) := by decide +kernel
theorem dX4_measureFor_25 : decode cX4_measureFor 25 = .ok (.bipush 36, 2) := by decide +kernel
theorem dX4_measureFor_27 : decode cX4_measureFor 27 = .ok (.if_icmp .gt 24, 3) := by decide +kernel
theorem dX4_measureFor_30 : decode cX4_measureFor 30 = .ok (.aload_n 0, 1) := by decide +kernel
theorem dX4_measureFor_31 : decode cX4_measureFor 31 = .ok (.getfield 10, 3) := by decide +kernel
theorem dX4_measureFor_34 : decode cX4_measureFor 34 = .ok (.iload_n 1, 1) := by decide +kernel
theorem dX4_measureFor_35 : decode cX4_measureFor 35 = .ok (.iload_n 2, 1) := by decide +kernel
theorem dX4_measureFor_36 : decode cX4_measureFor 36 = .ok (.iload_n 3, 1) := by decide +kernel
theorem dX4_measureFor_37 : decode cX4_measureFor 37 = .ok (.invokevirtual 167, 3) := by decide +kernel
theorem dX4_measureFor_40 : decode cX4_measureFor 40 = .ok (.ifCond .eq 5, 3) := by decide +kernel
theorem dX4_measureFor_43 : decode cX4_measureFor 43 = .ok (.iload_n 3, 1) := by decide +kernel
theorem dX4_measureFor_44 : decode cX4_measureFor 44 = .ok (.ireturn, 1) := by decide +kernel
theorem dX4_measureFor_45 : decode cX4_measureFor 45 = .ok (.iinc 3 1, 3) := by decide +kernel
theorem dX4_measureFor_48 : decode cX4_measureFor 48 = .ok (.goto (-24), 3) := by decide +kernel
theorem dX4_measureFor_51 : decode cX4_measureFor 51 = .ok (.aload_n 0, 1) := by decide +kernel
theorem dX4_measureFor_52 : decode cX4_measureFor 52 = .ok (.iconst 3, 1) := by decide +kernel
theorem dX4_measureFor_53 : decode cX4_measureFor 53 = .ok (.invokevirtual 51, 3) := by decide +kernel
theorem dX4_measureFor_56 : decode cX4_measureFor 56 = .ok (.ireturn, 1) := by decide +kernel
theorem dX4_kindFor_0 : decode cX4_kindFor 0 = .ok (.aload_n 0, 1) := by decide +kernel
theorem dX4_kindFor_1 : decode cX4_kindFor 1 = .ok (.iload_n 1, 1) := by decide +kernel
theorem dX4_kindFor_2 : decode cX4_kindFor 2 = .ok (.invokevirtual 95, 3) := by decide +kernel
theorem dX4_kindFor_5 : decode cX4_kindFor 5 = .ok (.ifCond .eq 13, 3) := by decide +kernel
theorem dX4_kindFor_8 : decode cX4_kindFor 8 = .ok (.iload_n 2, 1) := by decide +kernel
theorem dX4_kindFor_9 : decode cX4_kindFor 9 = .ok (.iconst 0, 1) := by decide +kernel
theorem dX4_kindFor_10 : decode cX4_kindFor 10 = .ok (.bipush 60, 2) := by decide +kernel
theorem dX4_kindFor_12 : decode cX4_kindFor 12 = .ok (.invokestatic 44, 3) := by decide +kernel
theorem dX4_kindFor_15 : decode cX4_kindFor 15 = .ok (.ifCond .ne 9, 3) := by decide +kernel
theorem dX4_kindFor_18 : decode cX4_kindFor 18 = .ok (.aload_n 0, 1) := by decide +kernel
theorem dX4_kindFor_19 : decode cX4_kindFor 19 = .ok (.iconst 0, 1) := by decide +kernel
theorem dX4_kindFor_20 : decode cX4_kindFor 20 = .ok (.invokevirtual 51, 3) := by decide +kernel
theorem dX4_kindFor_23 : decode cX4_kindFor 23 = .ok (.ireturn, 1) := by decide +kernel
theorem dX4_kindFor_24 : decode cX4_kindFor 24 = .ok (.iconst 0, 1) := by decide +kernel
theorem dX4_kindFor_25 : decode cX4_kindFor 25 = .ok (.istore_n 3, 1) := by decide +kernel
theorem dX4_kindFor_26 : decode cX4_kindFor 26 = .ok (.sipush 10000, 3) := by decide +kernel
theorem dX4_kindFor_29 : decode cX4_kindFor 29 = .ok (.istore 4, 2) := by decide +kernel
theorem dX4_kindFor_31 : decode cX4_kindFor 31 = .ok (.iconst 0, 1) := by decide +kernel
theorem dX4_kindFor_32 : decode cX4_kindFor 32 = .ok (.istore 5, 2) := by decide +kernel
theorem dX4_kindFor_34 : decode cX4_kindFor 34 = .ok (.iload 5, 2) := by decide +kernel
theorem dX4_kindFor_36 : decode cX4_kindFor 36 = .ok (.bipush 7, 2) := by decide +kernel
theorem dX4_kindFor_38 : decode cX4_kindFor 38 = .ok (.if_icmp .ge 56, 3) := by decide +kernel
theorem dX4_kindFor_41 : decode cX4_kindFor 41 = .ok (.aload_n 0, 1) := by decide +kernel
theorem dX4_kindFor_42 : decode cX4_kindFor 42 = .ok (.invokevirtual 152, 3) := by decide +kernel
theorem dX4_kindFor_45 : decode cX4_kindFor 45 = .ok (.aload_n 0, 1) := by decide +kernel
theorem dX4_kindFor_46 : decode cX4_kindFor 46 = .ok (.getfield 19, 3) := by decide +kernel
theorem dX4_kindFor_49 : decode cX4_kindFor 49 = .ok (.getfield 101, 3) := by decide +kernel
theorem dX4_kindFor_52 : decode cX4_kindFor 52 = .ok (.iload_n 1, 1) := by decide +kernel
theorem dX4_kindFor_53 : decode cX4_kindFor 53 = .ok (.iload 5, 2) := by decide +kernel
theorem dX4_kindFor_55 : decode cX4_kindFor 55 = .ok (.iastore, 1) := by decide +kernel
theorem dX4_kindFor_56 : decode cX4_kindFor 56 = .ok (.aload_n 0, 1) := by decide +kernel
theorem dX4_kindFor_57 : decode cX4_kindFor 57 = .ok (.getfield 19, 3) := by decide +kernel
theorem dX4_kindFor_60 : decode cX4_kindFor 60 = .ok (.iload_n 2, 1) := by decide +kernel
theorem dX4_kindFor_61 : decode cX4_kindFor 61 = .ok (.invokevirtual 132, 3) := by decide +kernel
theorem dX4_kindFor_64 : decode cX4_kindFor 64 = .ok (.aload_n 0, 1) := by decide +kernel
theorem dX4_kindFor_65 : decode cX4_kindFor 65 = .ok (.getfield 19, 3) := by decide +kernel
theorem dX4_kindFor_68 : decode cX4_kindFor 68 = .ok (.getfield 59, 3) := by decide +kernel
theorem dX4_kindFor_71 : decode cX4_kindFor 71 = .ok (.iload 4, 2) := by decide +kernel
theorem dX4_kindFor_73 : decode cX4_kindFor 73 = .ok (.if_icmp .ge 15, 3) := by decide +kernel
theorem dX4_kindFor_76 : decode cX4_kindFor 76 = .ok (.aload_n 0, 1) := by decide +kernel
theorem dX4_kindFor_77 : decode cX4_kindFor 77 = .ok (.getfield 19, 3) := by decide +kernel
theorem dX4_kindFor_80 : decode cX4_kindFor 80 = .ok (.getfield 59, 3) := by decide +kernel
theorem dX4_kindFor_83 : decode cX4_kindFor 83 = .ok (.istore 4, 2) := by decide +kernel
theorem dX4_kindFor_85 : decode cX4_kindFor 85 = .ok (.iload 5, 2) := by decide +kernel
theorem dX4_kindFor_87 : decode cX4_kindFor 87 = .ok (.istore_n 3, 1) := by decide +kernel
theorem dX4_kindFor_88 : decode cX4_kindFor 88 = .ok (.iinc 5 1, 3) := by decide +kernel
theorem dX4_kindFor_91 : decode cX4_kindFor 91 = .ok (.goto (-57), 3) := by decide +kernel
theorem dX4_kindFor_94 : decode cX4_kindFor 94 = .ok (.iload_n 3, 1) := by decide +kernel
theorem dX4_kindFor_95 : decode cX4_kindFor 95 = .ok (.ireturn, 1) := by decide +kernel
theorem dX4_sizeFor_0 : decode cX4_sizeFor 0 = .ok (.aload_n 0, 1) := by decide +kernel
theorem dX4_sizeFor_1 : decode cX4_sizeFor 1 = .ok (.iload_n 1, 1) := by decide +kernel
theorem dX4_sizeFor_2 : decode cX4_sizeFor 2 = .ok (.invokevirtual 95, 3) := by decide +kernel
theorem dX4_sizeFor_5 : decode cX4_sizeFor 5 = .ok (.ifCond .eq 13, 3) := by decide +kernel
theorem dX4_sizeFor_8 : decode cX4_sizeFor 8 = .ok (.iload_n 2, 1) := by decide +kernel
theorem dX4_sizeFor_9 : decode cX4_sizeFor 9 = .ok (.iconst 0, 1) := by decide +kernel
theorem dX4_sizeFor_10 : decode cX4_sizeFor 10 = .ok (.bipush 60, 2) := by decide +kernel
theorem dX4_sizeFor_12 : decode cX4_sizeFor 12 = .ok (.invokestatic 44, 3) := by decide +kernel
theorem dX4_sizeFor_15 : decode cX4_sizeFor 15 = .ok (.ifCond .ne 9, 3) := by decide +kernel
theorem dX4_sizeFor_18 : decode cX4_sizeFor 18 = .ok (.aload_n 0, 1) := by decide +kernel
theorem dX4_sizeFor_19 : decode cX4_sizeFor 19 = .ok (.iconst 0, 1) := by decide +kernel
theorem dX4_sizeFor_20 : decode cX4_sizeFor 20 = .ok (.invokevirtual 51, 3) := by decide +kernel
theorem dX4_sizeFor_23 : decode cX4_sizeFor 23 = .ok (.ireturn, 1) := by decide +kernel
theorem dX4_sizeFor_24 : decode cX4_sizeFor 24 = .ok (.bipush 40, 2) := by decide +kernel
theorem dX4_sizeFor_26 : decode cX4_sizeFor 26 = .ok (.istore_n 3, 1) := by decide +kernel
theorem dX4_sizeFor_27 : decode cX4_sizeFor 27 = .ok (.iload_n 3, 1) := by decide +kernel
theorem dX4_sizeFor_28 : decode cX4_sizeFor 28 = .ok (.iconst 1, 1) := by decide +kernel
theorem dX4_sizeFor_29 : decode cX4_sizeFor 29 = .ok (.if_icmp .lt 54, 3) := by decide +kernel
theorem dX4_sizeFor_32 : decode cX4_sizeFor 32 = .ok (.aload_n 0, 1) := by decide +kernel
theorem dX4_sizeFor_33 : decode cX4_sizeFor 33 = .ok (.invokevirtual 152, 3) := by decide +kernel
theorem dX4_sizeFor_36 : decode cX4_sizeFor 36 = .ok (.aload_n 0, 1) := by decide +kernel
theorem dX4_sizeFor_37 : decode cX4_sizeFor 37 = .ok (.getfield 19, 3) := by decide +kernel
theorem dX4_sizeFor_40 : decode cX4_sizeFor 40 = .ok (.getfield 170, 3) := by decide +kernel
theorem dX4_sizeFor_43 : decode cX4_sizeFor 43 = .ok (.iload_n 1, 1) := by decide +kernel
theorem dX4_sizeFor_44 : decode cX4_sizeFor 44 = .ok (.iload_n 3, 1) := by decide +kernel
theorem dX4_sizeFor_45 : decode cX4_sizeFor 45 = .ok (.iastore, 1) := by decide +kernel
theorem dX4_sizeFor_46 : decode cX4_sizeFor 46 = .ok (.aload_n 0, 1) := by decide +kernel
theorem dX4_sizeFor_47 : decode cX4_sizeFor 47 = .ok (.getfield 19, 3) := by decide +kernel
theorem dX4_sizeFor_50 : decode cX4_sizeFor 50 = .ok (.iload_n 2, 1) := by decide +kernel
theorem dX4_sizeFor_51 : decode cX4_sizeFor 51 = .ok (.invokevirtual 132, 3) := by decide +kernel
theorem dX4_sizeFor_54 : decode cX4_sizeFor 54 = .ok (.aload_n 0, 1) := by decide +kernel
theorem dX4_sizeFor_55 : decode cX4_sizeFor 55 = .ok (.getfield 19, 3) := by decide +kernel
theorem dX4_sizeFor_58 : decode cX4_sizeFor 58 = .ok (.getfield 158, 3) := by decide +kernel
theorem dX4_sizeFor_61 : decode cX4_sizeFor 61 = .ok (.iload_n 1, 1) := by decide +kernel
theorem dX4_sizeFor_62 : decode cX4_sizeFor 62 = .ok (.iaload, 1) := by decide +kernel
theorem dX4_sizeFor_63 : decode cX4_sizeFor 63 = .ok (.aload_n 0, 1) := by decide +kernel
theorem dX4_sizeFor_64 : decode cX4_sizeFor 64 = .ok (.getfield 19, 3) := by decide +kernel
theorem dX4_sizeFor_67 : decode cX4_sizeFor 67 = .ok (.getfield 173, 3) := by decide +kernel
theorem dX4_sizeFor_70 : decode cX4_sizeFor 70 = .ok (.iload_n 1, 1) := by decide +kernel
theorem dX4_sizeFor_71 : decode cX4_sizeFor 71 = .ok (.iaload, 1) := by decide +kernel
theorem dX4_sizeFor_72 : decode cX4_sizeFor 72 = .ok (.if_icmp .ne 5, 3) := by decide +kernel
theorem dX4_sizeFor_75 : decode cX4_sizeFor 75 = .ok (.iload_n 3, 1) := by decide +kernel
theorem dX4_sizeFor_76 : decode cX4_sizeFor 76 = .ok (.ireturn, 1) := by decide +kernel
theorem dX4_sizeFor_77 : decode cX4_sizeFor 77 = .ok (.iinc 3 (-1), 3) := by decide +kernel
theorem dX4_sizeFor_80 : decode cX4_sizeFor 80 = .ok (.goto (-53), 3) := by decide +kernel
theorem dX4_sizeFor_83 : decode cX4_sizeFor 83 = .ok (.aload_n 0, 1) := by decide +kernel
theorem dX4_sizeFor_84 : decode cX4_sizeFor 84 = .ok (.iconst 3, 1) := by decide +kernel
theorem dX4_sizeFor_85 : decode cX4_sizeFor 85 = .ok (.invokevirtual 51, 3) := by decide +kernel
theorem dX4_sizeFor_88 : decode cX4_sizeFor 88 = .ok (.ireturn, 1) := by decide +kernel
theorem dX4_send_0 : decode cX4_send 0 = .ok (.iload_n 1, 1) := by decide +kernel
theorem dX4_send_1 : decode cX4_send 1 = .ok (.iconst 0, 1) := by decide +kernel
theorem dX4_send_2 : decode cX4_send 2 = .ok (.bipush 20, 2) := by decide +kernel
theorem dX4_send_4 : decode cX4_send 4 = .ok (.invokestatic 44, 3) := by decide +kernel
theorem dX4_send_7 : decode cX4_send 7 = .ok (.ifCond .ne 9, 3) := by decide +kernel
theorem dX4_send_10 : decode cX4_send 10 = .ok (.aload_n 0, 1) := by decide +kernel
theorem dX4_send_11 : decode cX4_send 11 = .ok (.iconst 0, 1) := by decide +kernel
theorem dX4_send_12 : decode cX4_send 12 = .ok (.invokevirtual 51, 3) := by decide +kernel
theorem dX4_send_15 : decode cX4_send 15 = .ok (.ireturn, 1) := by decide +kernel
theorem dX4_send_16 : decode cX4_send 16 = .ok (.iconst 1, 1) := by decide +kernel
theorem dX4_send_17 : decode cX4_send 17 = .ok (.aload_n 0, 1) := by decide +kernel
theorem dX4_send_18 : decode cX4_send 18 = .ok (.getfield 10, 3) := by decide +kernel
theorem dX4_send_21 : decode cX4_send 21 = .ok (.getfield 176, 3) := by decide +kernel
theorem dX4_send_24 : decode cX4_send 24 = .ok (.ishl, 1) := by decide +kernel
theorem dX4_send_25 : decode cX4_send 25 = .ok (.istore_n 2, 1) := by decide +kernel
theorem dX4_send_26 : decode cX4_send 26 = .ok (.iconst 0, 1) := by decide +kernel
theorem dX4_send_27 : decode cX4_send 27 = .ok (.istore_n 3, 1) := by decide +kernel
theorem dX4_send_28 : decode cX4_send 28 = .ok (.iload_n 3, 1) := by decide +kernel
theorem dX4_send_29 : decode cX4_send 29 = .ok (.aload_n 0, 1) := by decide +kernel
theorem dX4_send_30 : decode cX4_send 30 = .ok (.getfield 10, 3) := by decide +kernel
theorem dX4_send_33 : decode cX4_send 33 = .ok (.getfield 176, 3) := by decide +kernel
theorem dX4_send_36 : decode cX4_send 36 = .ok (.if_icmp .gt 60, 3) := by decide +kernel
theorem dX4_send_39 : decode cX4_send 39 = .ok (.iconst 0, 1) := by decide +kernel
theorem dX4_send_40 : decode cX4_send 40 = .ok (.istore 4, 2) := by decide +kernel
theorem dX4_send_42 : decode cX4_send 42 = .ok (.iload 4, 2) := by decide +kernel
theorem dX4_send_44 : decode cX4_send 44 = .ok (.iload_n 2, 1) := by decide +kernel
theorem dX4_send_45 : decode cX4_send 45 = .ok (.if_icmp .ge 45, 3) := by decide +kernel
theorem dX4_send_48 : decode cX4_send 48 = .ok (.iload 4, 2) := by decide +kernel
theorem dX4_send_50 : decode cX4_send 50 = .ok (.invokestatic 179, 3) := by decide +kernel
theorem dX4_send_53 : decode cX4_send 53 = .ok (.iload_n 3, 1) := by decide +kernel
theorem dX4_send_54 : decode cX4_send 54 = .ok (.if_icmp .ne 30, 3) := by decide +kernel
theorem dX4_send_57 : decode cX4_send 57 = .ok (.aload_n 0, 1) := by decide +kernel
theorem dX4_send_58 : decode cX4_send 58 = .ok (.invokevirtual 152, 3) := by decide +kernel
theorem dX4_send_61 : decode cX4_send 61 = .ok (.aload_n 0, 1) := by decide +kernel
theorem dX4_send_62 : decode cX4_send 62 = .ok (.getfield 19, 3) := by decide +kernel
theorem dX4_send_65 : decode cX4_send 65 = .ok (.iload 4, 2) := by decide +kernel
theorem dX4_send_67 : decode cX4_send 67 = .ok (.invokevirtual 184, 3) := by decide +kernel
theorem dX4_send_70 : decode cX4_send 70 = .ok (.aload_n 0, 1) := by decide +kernel
theorem dX4_send_71 : decode cX4_send 71 = .ok (.getfield 19, 3) := by decide +kernel
theorem dX4_send_74 : decode cX4_send 74 = .ok (.iload_n 1, 1) := by decide +kernel
theorem dX4_send_75 : decode cX4_send 75 = .ok (.invokevirtual 164, 3) := by decide +kernel
theorem dX4_send_78 : decode cX4_send 78 = .ok (.ifCond .eq 6, 3) := by decide +kernel
theorem dX4_send_81 : decode cX4_send 81 = .ok (.iload 4, 2) := by decide +kernel
theorem dX4_send_83 : decode cX4_send 83 = .ok (.ireturn, 1) := by decide +kernel
theorem dX4_send_84 : decode cX4_send 84 = .ok (.iinc 4 1, 3) := by decide +kernel
theorem dX4_send_87 : decode cX4_send 87 = .ok (.goto (-45), 3) := by decide +kernel
theorem dX4_send_90 : decode cX4_send 90 = .ok (.iinc 3 1, 3) := by decide +kernel
theorem dX4_send_93 : decode cX4_send 93 = .ok (.goto (-65), 3) := by decide +kernel
theorem dX4_send_96 : decode cX4_send 96 = .ok (.aload_n 0, 1) := by decide +kernel
theorem dX4_send_97 : decode cX4_send 97 = .ok (.iconst 3, 1) := by decide +kernel
theorem dX4_send_98 : decode cX4_send 98 = .ok (.invokevirtual 51, 3) := by decide +kernel
theorem dX4_send_101 : decode cX4_send 101 = .ok (.ireturn, 1) := by decide +kernel
theorem dX4_fits_0 : decode cX4_fits 0 = .ok (.aload_n 0, 1) := by decide +kernel
theorem dX4_fits_1 : decode cX4_fits 1 = .ok (.iload_n 1, 1) := by decide +kernel
theorem dX4_fits_2 : decode cX4_fits 2 = .ok (.iload_n 2, 1) := by decide +kernel
theorem dX4_fits_3 : decode cX4_fits 3 = .ok (.invokevirtual 187, 3) := by decide +kernel
theorem dX4_fits_6 : decode cX4_fits 6 = .ok (.istore_n 3, 1) := by decide +kernel
theorem dX4_fits_7 : decode cX4_fits 7 = .ok (.iload_n 3, 1) := by decide +kernel
theorem dX4_fits_8 : decode cX4_fits 8 = .ok (.ifCond .lt 9, 3) := by decide +kernel
theorem dX4_fits_11 : decode cX4_fits 11 = .ok (.aload_n 0, 1) := by decide +kernel
theorem dX4_fits_12 : decode cX4_fits 12 = .ok (.iload_n 3, 1) := by decide +kernel
theorem dX4_fits_13 : decode cX4_fits 13 = .ok (.invokevirtual 51, 3) := by decide +kernel
theorem dX4_fits_16 : decode cX4_fits 16 = .ok (.ireturn, 1) := by decide +kernel
theorem dX4_fits_17 : decode cX4_fits 17 = .ok (.iconst 0, 1) := by decide +kernel
theorem dX4_fits_18 : decode cX4_fits 18 = .ok (.istore 4, 2) := by decide +kernel
theorem dX4_fits_20 : decode cX4_fits 20 = .ok (.bipush 16, 2) := by decide +kernel
theorem dX4_fits_22 : decode cX4_fits 22 = .ok (.istore 5, 2) := by decide +kernel
theorem dX4_fits_24 : decode cX4_fits 24 = .ok (.iload 5, 2) := by decide +kernel
theorem dX4_fits_26 : decode cX4_fits 26 = .ok (.bipush 36, 2) := by decide +kernel
theorem dX4_fits_28 : decode cX4_fits 28 = .ok (.if_icmp .gt 42, 3) := by decide +kernel
theorem dX4_fits_31 : decode cX4_fits 31 = .ok (.aload_n 0, 1) := by decide +kernel
theorem dX4_fits_32 : decode cX4_fits 32 = .ok (.invokevirtual 152, 3) := by decide +kernel
theorem dX4_fits_35 : decode cX4_fits 35 = .ok (.aload_n 0, 1) := by decide +kernel
theorem dX4_fits_36 : decode cX4_fits 36 = .ok (.getfield 19, 3) := by decide +kernel
theorem dX4_fits_39 : decode cX4_fits 39 = .ok (.getfield 78, 3) := by decide +kernel
theorem dX4_fits_42 : decode cX4_fits 42 = .ok (.aload_n 0, 1) := by decide +kernel
theorem dX4_fits_43 : decode cX4_fits 43 = .ok (.getfield 19, 3) := by decide +kernel
theorem dX4_fits_46 : decode cX4_fits 46 = .ok (.invokevirtual 190, 3) := by decide +kernel
theorem dX4_fits_49 : decode cX4_fits 49 = .ok (.iload 5, 2) := by decide +kernel
theorem dX4_fits_51 : decode cX4_fits 51 = .ok (.iastore, 1) := by decide +kernel
theorem dX4_fits_52 : decode cX4_fits 52 = .ok (.aload_n 0, 1) := by decide +kernel
theorem dX4_fits_53 : decode cX4_fits 53 = .ok (.iload_n 1, 1) := by decide +kernel
theorem dX4_fits_54 : decode cX4_fits 54 = .ok (.iload_n 2, 1) := by decide +kernel
theorem dX4_fits_55 : decode cX4_fits 55 = .ok (.invokevirtual 193, 3) := by decide +kernel
theorem dX4_fits_58 : decode cX4_fits 58 = .ok (.ifCond .eq 6, 3) := by decide +kernel
theorem dX4_fits_61 : decode cX4_fits 61 = .ok (.iinc 4 1, 3) := by decide +kernel
theorem dX4_fits_64 : decode cX4_fits 64 = .ok (.iinc 5 1, 3) := by decide +kernel
theorem dX4_fits_67 : decode cX4_fits 67 = .ok (.goto (-43), 3) := by decide +kernel
theorem dX4_fits_70 : decode cX4_fits 70 = .ok (.iload 4, 2) := by decide +kernel
theorem dX4_fits_72 : decode cX4_fits 72 = .ok (.ireturn, 1) := by decide +kernel
theorem dX4_kinds_0 : decode cX4_kinds 0 = .ok (.aload_n 0, 1) := by decide +kernel
theorem dX4_kinds_1 : decode cX4_kinds 1 = .ok (.iload_n 1, 1) := by decide +kernel
theorem dX4_kinds_2 : decode cX4_kinds 2 = .ok (.iload_n 2, 1) := by decide +kernel
theorem dX4_kinds_3 : decode cX4_kinds 3 = .ok (.invokevirtual 187, 3) := by decide +kernel
theorem dX4_kinds_6 : decode cX4_kinds 6 = .ok (.istore_n 3, 1) := by decide +kernel
theorem dX4_kinds_7 : decode cX4_kinds 7 = .ok (.iload_n 3, 1) := by decide +kernel
theorem dX4_kinds_8 : decode cX4_kinds 8 = .ok (.ifCond .lt 9, 3) := by decide +kernel
theorem dX4_kinds_11 : decode cX4_kinds 11 = .ok (.aload_n 0, 1) := by decide +kernel
theorem dX4_kinds_12 : decode cX4_kinds 12 = .ok (.iload_n 3, 1) := by decide +kernel
theorem dX4_kinds_13 : decode cX4_kinds 13 = .ok (.invokevirtual 51, 3) := by decide +kernel
theorem dX4_kinds_16 : decode cX4_kinds 16 = .ok (.ireturn, 1) := by decide +kernel
theorem dX4_kinds_17 : decode cX4_kinds 17 = .ok (.iconst 0, 1) := by decide +kernel
theorem dX4_kinds_18 : decode cX4_kinds 18 = .ok (.istore 4, 2) := by decide +kernel
theorem dX4_kinds_20 : decode cX4_kinds 20 = .ok (.iconst 0, 1) := by decide +kernel
theorem dX4_kinds_21 : decode cX4_kinds 21 = .ok (.istore 5, 2) := by decide +kernel
theorem dX4_kinds_23 : decode cX4_kinds 23 = .ok (.iload 5, 2) := by decide +kernel
theorem dX4_kinds_25 : decode cX4_kinds 25 = .ok (.bipush 7, 2) := by decide +kernel
theorem dX4_kinds_27 : decode cX4_kinds 27 = .ok (.if_icmp .ge 42, 3) := by decide +kernel
theorem dX4_kinds_30 : decode cX4_kinds 30 = .ok (.aload_n 0, 1) := by decide +kernel
theorem dX4_kinds_31 : decode cX4_kinds 31 = .ok (.invokevirtual 152, 3) := by decide +kernel
theorem dX4_kinds_34 : decode cX4_kinds 34 = .ok (.aload_n 0, 1) := by decide +kernel
theorem dX4_kinds_35 : decode cX4_kinds 35 = .ok (.getfield 19, 3) := by decide +kernel
theorem dX4_kinds_38 : decode cX4_kinds 38 = .ok (.getfield 101, 3) := by decide +kernel
theorem dX4_kinds_41 : decode cX4_kinds 41 = .ok (.iload_n 2, 1) := by decide +kernel
theorem dX4_kinds_42 : decode cX4_kinds 42 = .ok (.iload 5, 2) := by decide +kernel
theorem dX4_kinds_44 : decode cX4_kinds 44 = .ok (.iastore, 1) := by decide +kernel
theorem dX4_kinds_45 : decode cX4_kinds 45 = .ok (.aload_n 0, 1) := by decide +kernel
theorem dX4_kinds_46 : decode cX4_kinds 46 = .ok (.iload_n 1, 1) := by decide +kernel
theorem dX4_kinds_47 : decode cX4_kinds 47 = .ok (.iload_n 2, 1) := by decide +kernel
theorem dX4_kinds_48 : decode cX4_kinds 48 = .ok (.invokevirtual 193, 3) := by decide +kernel
theorem dX4_kinds_51 : decode cX4_kinds 51 = .ok (.ifCond .eq 12, 3) := by decide +kernel
theorem dX4_kinds_54 : decode cX4_kinds 54 = .ok (.iload 4, 2) := by decide +kernel
theorem dX4_kinds_56 : decode cX4_kinds 56 = .ok (.iconst 1, 1) := by decide +kernel
theorem dX4_kinds_57 : decode cX4_kinds 57 = .ok (.iload 5, 2) := by decide +kernel
theorem dX4_kinds_59 : decode cX4_kinds 59 = .ok (.ishl, 1) := by decide +kernel
theorem dX4_kinds_60 : decode cX4_kinds 60 = .ok (.ior, 1) := by decide +kernel
theorem dX4_kinds_61 : decode cX4_kinds 61 = .ok (.istore 4, 2) := by decide +kernel
theorem dX4_kinds_63 : decode cX4_kinds 63 = .ok (.iinc 5 1, 3) := by decide +kernel
theorem dX4_kinds_66 : decode cX4_kinds 66 = .ok (.goto (-43), 3) := by decide +kernel
theorem dX4_kinds_69 : decode cX4_kinds 69 = .ok (.iload 4, 2) := by decide +kernel
theorem dX4_kinds_71 : decode cX4_kinds 71 = .ok (.ireturn, 1) := by decide +kernel
theorem dX4_party_0 : decode cX4_party 0 = .ok (.iload_n 1, 1) := by decide +kernel
theorem dX4_party_1 : decode cX4_party 1 = .ok (.iconst 1, 1) := by decide +kernel
theorem dX4_party_2 : decode cX4_party 2 = .ok (.bipush 20, 2) := by decide +kernel
theorem dX4_party_4 : decode cX4_party 4 = .ok (.invokestatic 44, 3) := by decide +kernel
theorem dX4_party_7 : decode cX4_party 7 = .ok (.ifCond .ne 9, 3) := by decide +kernel
theorem dX4_party_10 : decode cX4_party 10 = .ok (.aload_n 0, 1) := by decide +kernel
theorem dX4_party_11 : decode cX4_party 11 = .ok (.iconst 0, 1) := by decide +kernel
theorem dX4_party_12 : decode cX4_party 12 = .ok (.invokevirtual 51, 3) := by decide +kernel
theorem dX4_party_15 : decode cX4_party 15 = .ok (.ireturn, 1) := by decide +kernel
theorem dX4_party_16 : decode cX4_party 16 = .ok (.aload_n 0, 1) := by decide +kernel
theorem dX4_party_17 : decode cX4_party 17 = .ok (.getfield 10, 3) := by decide +kernel
theorem dX4_party_20 : decode cX4_party 20 = .ok (.getfield 109, 3) := by decide +kernel
theorem dX4_party_23 : decode cX4_party 23 = .ok (.iload_n 1, 1) := by decide +kernel
theorem dX4_party_24 : decode cX4_party 24 = .ok (.iadd, 1) := by decide +kernel
theorem dX4_party_25 : decode cX4_party 25 = .ok (.ldc 131, 2) := by decide +kernel
theorem dX4_party_27 : decode cX4_party 27 = .ok (.if_icmp .le 9, 3) := by decide +kernel
theorem dX4_party_30 : decode cX4_party 30 = .ok (.aload_n 0, 1) := by decide +kernel
theorem dX4_party_31 : decode cX4_party 31 = .ok (.iconst 4, 1) := by decide +kernel
theorem dX4_party_32 : decode cX4_party 32 = .ok (.invokevirtual 51, 3) := by decide +kernel
theorem dX4_party_35 : decode cX4_party 35 = .ok (.ireturn, 1) := by decide +kernel
theorem dX4_party_36 : decode cX4_party 36 = .ok (.iconst 0, 1) := by decide +kernel
theorem dX4_party_37 : decode cX4_party 37 = .ok (.istore_n 2, 1) := by decide +kernel
theorem dX4_party_38 : decode cX4_party 38 = .ok (.iload_n 2, 1) := by decide +kernel
theorem dX4_party_39 : decode cX4_party 39 = .ok (.iload_n 1, 1) := by decide +kernel
theorem dX4_party_40 : decode cX4_party 40 = .ok (.if_icmp .ge 16, 3) := by decide +kernel
theorem dX4_party_43 : decode cX4_party 43 = .ok (.aload_n 0, 1) := by decide +kernel
theorem dX4_party_44 : decode cX4_party 44 = .ok (.getfield 10, 3) := by decide +kernel
theorem dX4_party_47 : decode cX4_party 47 = .ok (.invokevirtual 197, 3) := by decide +kernel
theorem dX4_party_50 : decode cX4_party 50 = .ok (.iinc 2 1, 3) := by decide +kernel
theorem dX4_party_53 : decode cX4_party 53 = .ok (.goto (-15), 3) := by decide +kernel
theorem dX4_party_56 : decode cX4_party 56 = .ok (.aload_n 0, 1) := by decide +kernel
theorem dX4_party_57 : decode cX4_party 57 = .ok (.getfield 10, 3) := by decide +kernel
theorem dX4_party_60 : decode cX4_party 60 = .ok (.getfield 59, 3) := by decide +kernel
theorem dX4_party_63 : decode cX4_party 63 = .ok (.ireturn, 1) := by decide +kernel
theorem dX4_odds_0 : decode cX4_odds 0 = .ok (.aload_n 0, 1) := by decide +kernel
theorem dX4_odds_1 : decode cX4_odds 1 = .ok (.iload_n 1, 1) := by decide +kernel
theorem dX4_odds_2 : decode cX4_odds 2 = .ok (.invokevirtual 95, 3) := by decide +kernel
theorem dX4_odds_5 : decode cX4_odds 5 = .ok (.ifCond .eq 22, 3) := by decide +kernel
theorem dX4_odds_8 : decode cX4_odds 8 = .ok (.iload_n 2, 1) := by decide +kernel
theorem dX4_odds_9 : decode cX4_odds 9 = .ok (.iconst 0, 1) := by decide +kernel
theorem dX4_odds_10 : decode cX4_odds 10 = .ok (.bipush 13, 2) := by decide +kernel
theorem dX4_odds_12 : decode cX4_odds 12 = .ok (.invokestatic 44, 3) := by decide +kernel
theorem dX4_odds_15 : decode cX4_odds 15 = .ok (.ifCond .eq 12, 3) := by decide +kernel
theorem dX4_odds_18 : decode cX4_odds 18 = .ok (.iload_n 3, 1) := by decide +kernel
theorem dX4_odds_19 : decode cX4_odds 19 = .ok (.iconst 0, 1) := by decide +kernel
theorem dX4_odds_20 : decode cX4_odds 20 = .ok (.iconst 1, 1) := by decide +kernel
theorem dX4_odds_21 : decode cX4_odds 21 = .ok (.invokestatic 44, 3) := by decide +kernel
theorem dX4_odds_24 : decode cX4_odds 24 = .ok (.ifCond .ne 10, 3) := by decide +kernel
theorem dX4_odds_27 : decode cX4_odds 27 = .ok (.aload_n 0, 1) := by decide +kernel
theorem dX4_odds_28 : decode cX4_odds 28 = .ok (.iconst 0, 1) := by decide +kernel
theorem dX4_odds_29 : decode cX4_odds 29 = .ok (.invokevirtual 51, 3) := by decide +kernel
theorem dX4_odds_32 : decode cX4_odds 32 = .ok (.i2l, 1) := by decide +kernel
theorem dX4_odds_33 : decode cX4_odds 33 = .ok (.lreturn, 1) := by decide +kernel
theorem dX4_odds_34 : decode cX4_odds 34 = .ok (.aload_n 0, 1) := by decide +kernel
theorem dX4_odds_35 : decode cX4_odds 35 = .ok (.getfield 10, 3) := by decide +kernel
theorem dX4_odds_38 : decode cX4_odds 38 = .ok (.iload_n 1, 1) := by decide +kernel
theorem dX4_odds_39 : decode cX4_odds 39 = .ok (.invokevirtual 200, 3) := by decide +kernel
theorem dX4_odds_42 : decode cX4_odds 42 = .ok (.istore 4, 2) := by decide +kernel
theorem dX4_odds_44 : decode cX4_odds 44 = .ok (.iload 4, 2) := by decide +kernel
theorem dX4_odds_46 : decode cX4_odds 46 = .ok (.bipush 21, 2) := by decide +kernel
theorem dX4_odds_48 : decode cX4_odds 48 = .ok (.invokestatic 203, 3) := by decide +kernel
theorem dX4_odds_51 : decode cX4_odds 51 = .ok (.istore 5, 2) := by decide +kernel
theorem dX4_odds_53 : decode cX4_odds 53 = .ok (.iload_n 3, 1) := by decide +kernel
theorem dX4_odds_54 : decode cX4_odds 54 = .ok (.ifCond .ne 8, 3) := by decide +kernel
theorem dX4_odds_57 : decode cX4_odds 57 = .ok (.iload 4, 2) := by decide +kernel
theorem dX4_odds_59 : decode cX4_odds 59 = .ok (.goto 5, 3) := by decide +kernel
theorem dX4_odds_62 : decode cX4_odds 62 = .ok (.bipush 21, 2) := by decide +kernel
theorem dX4_odds_64 : decode cX4_odds 64 = .ok (.istore 6, 2) := by decide +kernel
theorem dX4_odds_66 : decode cX4_odds 66 = .ok (.iload 5, 2) := by decide +kernel
theorem dX4_odds_68 : decode cX4_odds 68 = .ok (.ifCond .le 11, 3) := by decide +kernel
theorem dX4_odds_71 : decode cX4_odds 71 = .ok (.iload 6, 2) := by decide +kernel
theorem dX4_odds_73 : decode cX4_odds 73 = .ok (.iload 5, 2) := by decide +kernel
theorem dX4_odds_75 : decode cX4_odds 75 = .ok (.idiv, 1) := by decide +kernel
theorem dX4_odds_76 : decode cX4_odds 76 = .ok (.goto 5, 3) := by decide +kernel
theorem dX4_odds_79 : decode cX4_odds 79 = .ok (.iload 6, 2) := by decide +kernel
theorem dX4_odds_81 : decode cX4_odds 81 = .ok (.istore 7, 2) := by decide +kernel
theorem dX4_odds_83 : decode cX4_odds 83 = .ok (.lconst 1, 1) := by decide +kernel
theorem dX4_odds_84 : decode cX4_odds 84 = .ok (.lstore 8, 2) := by decide +kernel
theorem dX4_odds_86 : decode cX4_odds 86 = .ok (.iconst 0, 1) := by decide +kernel
theorem dX4_odds_87 : decode cX4_odds 87 = .ok (.istore 10, 2) := by decide +kernel
theorem dX4_odds_89 : decode cX4_odds 89 = .ok (.iload 10, 2) := by decide +kernel
theorem dX4_odds_91 : decode cX4_odds 91 = .ok (.iload_n 2, 1) := by decide +kernel
theorem dX4_odds_92 : decode cX4_odds 92 = .ok (.if_icmp .ge 17, 3) := by decide +kernel
theorem dX4_odds_95 : decode cX4_odds 95 = .ok (.lload 8, 2) := by decide +kernel
theorem dX4_odds_97 : decode cX4_odds 97 = .ok (.iload 7, 2) := by decide +kernel
