theorem dX5_strains_112 : decode cX5_strains 112 = .ok (.getfield 9, 3) := by decide +kernel
theorem dX5_strains_115 : decode cX5_strains 115 = .ok (.iconst 5, 1) := by decide +kernel
theorem dX5_strains_116 : decode cX5_strains 116 = .ok (.iconst 1, 1) := by decide +kernel
theorem dX5_strains_117 : decode cX5_strains 117 = .ok (.iastore, 1) := by decide +kernel
theorem dX5_strains_118 : decode cX5_strains 118 = .ok (.return_, 1) := by decide +kernel
theorem dX5_hour_0 : decode cX5_hour 0 = .ok (.aload_n 0, 1) := by decide +kernel
theorem dX5_hour_1 : decode cX5_hour 1 = .ok (.invokevirtual 150, 3) := by decide +kernel
theorem dX5_hour_4 : decode cX5_hour 4 = .ok (.istore_n 1, 1) := by decide +kernel
theorem dX5_hour_5 : decode cX5_hour 5 = .ok (.iconst 0, 1) := by decide +kernel
theorem dX5_hour_6 : decode cX5_hour 6 = .ok (.istore_n 2, 1) := by decide +kernel
theorem dX5_hour_7 : decode cX5_hour 7 = .ok (.iload_n 2, 1) := by decide +kernel
theorem dX5_hour_8 : decode cX5_hour 8 = .ok (.aload_n 0, 1) := by decide +kernel
theorem dX5_hour_9 : decode cX5_hour 9 = .ok (.getfield 9, 3) := by decide +kernel
theorem dX5_hour_12 : decode cX5_hour 12 = .ok (.iconst 1, 1) := by decide +kernel
theorem dX5_hour_13 : decode cX5_hour 13 = .ok (.iaload, 1) := by decide +kernel
theorem dX5_hour_14 : decode cX5_hour 14 = .ok (.if_icmp .ge 38, 3) := by decide +kernel
theorem dX5_hour_17 : decode cX5_hour 17 = .ok (.aload_n 0, 1) := by decide +kernel
theorem dX5_hour_18 : decode cX5_hour 18 = .ok (.iload_n 2, 1) := by decide +kernel
theorem dX5_hour_19 : decode cX5_hour 19 = .ok (.invokevirtual 147, 3) := by decide +kernel
theorem dX5_hour_22 : decode cX5_hour 22 = .ok (.ifCond .eq 24, 3) := by decide +kernel
theorem dX5_hour_25 : decode cX5_hour 25 = .ok (.aload_n 0, 1) := by decide +kernel
theorem dX5_hour_26 : decode cX5_hour 26 = .ok (.iload_n 2, 1) := by decide +kernel
theorem dX5_hour_27 : decode cX5_hour 27 = .ok (.iconst 1, 1) := by decide +kernel
theorem dX5_hour_28 : decode cX5_hour 28 = .ok (.invokevirtual 116, 3) := by decide +kernel
theorem dX5_hour_31 : decode cX5_hour 31 = .ok (.aload_n 0, 1) := by decide +kernel
theorem dX5_hour_32 : decode cX5_hour 32 = .ok (.iload_n 2, 1) := by decide +kernel
theorem dX5_hour_33 : decode cX5_hour 33 = .ok (.iconst 3, 1) := by decide +kernel
theorem dX5_hour_34 : decode cX5_hour 34 = .ok (.invokevirtual 116, 3) := by decide +kernel
theorem dX5_hour_37 : decode cX5_hour 37 = .ok (.if_icmp .eq 9, 3) := by decide +kernel
theorem dX5_hour_40 : decode cX5_hour 40 = .ok (.aload_n 0, 1) := by decide +kernel
theorem dX5_hour_41 : decode cX5_hour 41 = .ok (.iload_n 2, 1) := by decide +kernel
theorem dX5_hour_42 : decode cX5_hour 42 = .ok (.iload_n 1, 1) := by decide +kernel
theorem dX5_hour_43 : decode cX5_hour 43 = .ok (.invokevirtual 153, 3) := by decide +kernel
theorem dX5_hour_46 : decode cX5_hour 46 = .ok (.iinc 2 1, 3) := by decide +kernel
theorem dX5_hour_49 : decode cX5_hour 49 = .ok (.goto (-42), 3) := by decide +kernel
theorem dX5_hour_52 : decode cX5_hour 52 = .ok (.aload_n 0, 1) := by decide +kernel
theorem dX5_hour_53 : decode cX5_hour 53 = .ok (.getfield 9, 3) := by decide +kernel
theorem dX5_hour_56 : decode cX5_hour 56 = .ok (.iconst 5, 1) := by decide +kernel
theorem dX5_hour_57 : decode cX5_hour 57 = .ok (.iaload, 1) := by decide +kernel
theorem dX5_hour_58 : decode cX5_hour 58 = .ok (.ifCond .ne 8, 3) := by decide +kernel
theorem dX5_hour_61 : decode cX5_hour 61 = .ok (.aload_n 0, 1) := by decide +kernel
theorem dX5_hour_62 : decode cX5_hour 62 = .ok (.iload_n 1, 1) := by decide +kernel
theorem dX5_hour_63 : decode cX5_hour 63 = .ok (.invokevirtual 157, 3) := by decide +kernel
theorem dX5_hour_66 : decode cX5_hour 66 = .ok (.aload_n 0, 1) := by decide +kernel
theorem dX5_hour_67 : decode cX5_hour 67 = .ok (.getfield 9, 3) := by decide +kernel
theorem dX5_hour_70 : decode cX5_hour 70 = .ok (.iconst 0, 1) := by decide +kernel
theorem dX5_hour_71 : decode cX5_hour 71 = .ok (.ldc 161, 2) := by decide +kernel
theorem dX5_hour_73 : decode cX5_hour 73 = .ok (.aload_n 0, 1) := by decide +kernel
theorem dX5_hour_74 : decode cX5_hour 74 = .ok (.getfield 9, 3) := by decide +kernel
theorem dX5_hour_77 : decode cX5_hour 77 = .ok (.iconst 0, 1) := by decide +kernel
theorem dX5_hour_78 : decode cX5_hour 78 = .ok (.iaload, 1) := by decide +kernel
theorem dX5_hour_79 : decode cX5_hour 79 = .ok (.iconst 1, 1) := by decide +kernel
theorem dX5_hour_80 : decode cX5_hour 80 = .ok (.iadd, 1) := by decide +kernel
theorem dX5_hour_81 : decode cX5_hour 81 = .ok (.invokestatic 144, 3) := by decide +kernel
theorem dX5_hour_84 : decode cX5_hour 84 = .ok (.iastore, 1) := by decide +kernel
theorem dX5_hour_85 : decode cX5_hour 85 = .ok (.return_, 1) := by decide +kernel
theorem dX5_hoursGo_0 : decode cX5_hoursGo 0 = .ok (.iconst 0, 1) := by decide +kernel
theorem dX5_hoursGo_1 : decode cX5_hoursGo 1 = .ok (.istore_n 2, 1) := by decide +kernel
theorem dX5_hoursGo_2 : decode cX5_hoursGo 2 = .ok (.iload_n 2, 1) := by decide +kernel
theorem dX5_hoursGo_3 : decode cX5_hoursGo 3 = .ok (.iload_n 1, 1) := by decide +kernel
theorem dX5_hoursGo_4 : decode cX5_hoursGo 4 = .ok (.if_icmp .ge 13, 3) := by decide +kernel
theorem dX5_hoursGo_7 : decode cX5_hoursGo 7 = .ok (.aload_n 0, 1) := by decide +kernel
theorem dX5_hoursGo_8 : decode cX5_hoursGo 8 = .ok (.invokevirtual 162, 3) := by decide +kernel
theorem dX5_hoursGo_11 : decode cX5_hoursGo 11 = .ok (.iinc 2 1, 3) := by decide +kernel
theorem dX5_hoursGo_14 : decode cX5_hoursGo 14 = .ok (.goto (-12), 3) := by decide +kernel
theorem dX5_hoursGo_17 : decode cX5_hoursGo 17 = .ok (.return_, 1) := by decide +kernel
theorem dX5_go_0 : decode cX5_go 0 = .ok (.iload_n 1, 1) := by decide +kernel
theorem dX5_go_1 : decode cX5_go 1 = .ok (.iconst 1, 1) := by decide +kernel
theorem dX5_go_2 : decode cX5_go 2 = .ok (.bipush 60, 2) := by decide +kernel
theorem dX5_go_4 : decode cX5_go 4 = .ok (.invokestatic 70, 3) := by decide +kernel
theorem dX5_go_7 : decode cX5_go 7 = .ok (.ifCond .ne 10, 3) := by decide +kernel
theorem dX5_go_10 : decode cX5_go 10 = .ok (.aload_n 0, 1) := by decide +kernel
theorem dX5_go_11 : decode cX5_go 11 = .ok (.ldc 60, 2) := by decide +kernel
theorem dX5_go_13 : decode cX5_go 13 = .ok (.invokevirtual 66, 3) := by decide +kernel
theorem dX5_go_16 : decode cX5_go 16 = .ok (.ireturn, 1) := by decide +kernel
theorem dX5_go_17 : decode cX5_go 17 = .ok (.aload_n 0, 1) := by decide +kernel
theorem dX5_go_18 : decode cX5_go 18 = .ok (.getfield 9, 3) := by decide +kernel
theorem dX5_go_21 : decode cX5_go 21 = .ok (.iconst 0, 1) := by decide +kernel
theorem dX5_go_22 : decode cX5_go 22 = .ok (.iaload, 1) := by decide +kernel
theorem dX5_go_23 : decode cX5_go 23 = .ok (.iload_n 1, 1) := by decide +kernel
theorem dX5_go_24 : decode cX5_go 24 = .ok (.iadd, 1) := by decide +kernel
theorem dX5_go_25 : decode cX5_go 25 = .ok (.ldc 161, 2) := by decide +kernel
theorem dX5_go_27 : decode cX5_go 27 = .ok (.if_icmp .le 10, 3) := by decide +kernel
theorem dX5_go_30 : decode cX5_go 30 = .ok (.aload_n 0, 1) := by decide +kernel
theorem dX5_go_31 : decode cX5_go 31 = .ok (.ldc 165, 2) := by decide +kernel
theorem dX5_go_33 : decode cX5_go 33 = .ok (.invokevirtual 66, 3) := by decide +kernel
theorem dX5_go_36 : decode cX5_go 36 = .ok (.ireturn, 1) := by decide +kernel
theorem dX5_go_37 : decode cX5_go 37 = .ok (.aload_n 0, 1) := by decide +kernel
theorem dX5_go_38 : decode cX5_go 38 = .ok (.iload_n 1, 1) := by decide +kernel
theorem dX5_go_39 : decode cX5_go 39 = .ok (.invokevirtual 166, 3) := by decide +kernel
theorem dX5_go_42 : decode cX5_go 42 = .ok (.aload_n 0, 1) := by decide +kernel
theorem dX5_go_43 : decode cX5_go 43 = .ok (.getfield 9, 3) := by decide +kernel
theorem dX5_go_46 : decode cX5_go 46 = .ok (.iconst 4, 1) := by decide +kernel
theorem dX5_go_47 : decode cX5_go 47 = .ok (.iaload, 1) := by decide +kernel
theorem dX5_go_48 : decode cX5_go 48 = .ok (.ireturn, 1) := by decide +kernel
theorem dX5_stuckOnes_0 : decode cX5_stuckOnes 0 = .ok (.iconst 0, 1) := by decide +kernel
theorem dX5_stuckOnes_1 : decode cX5_stuckOnes 1 = .ok (.istore_n 1, 1) := by decide +kernel
theorem dX5_stuckOnes_2 : decode cX5_stuckOnes 2 = .ok (.iconst 0, 1) := by decide +kernel
theorem dX5_stuckOnes_3 : decode cX5_stuckOnes 3 = .ok (.istore_n 2, 1) := by decide +kernel
theorem dX5_stuckOnes_4 : decode cX5_stuckOnes 4 = .ok (.iload_n 2, 1) := by decide +kernel
theorem dX5_stuckOnes_5 : decode cX5_stuckOnes 5 = .ok (.aload_n 0, 1) := by decide +kernel
theorem dX5_stuckOnes_6 : decode cX5_stuckOnes 6 = .ok (.getfield 9, 3) := by decide +kernel
theorem dX5_stuckOnes_9 : decode cX5_stuckOnes 9 = .ok (.iconst 1, 1) := by decide +kernel
theorem dX5_stuckOnes_10 : decode cX5_stuckOnes 10 = .ok (.iaload, 1) := by decide +kernel
theorem dX5_stuckOnes_11 : decode cX5_stuckOnes 11 = .ok (.if_icmp .ge 28, 3) := by decide +kernel
theorem dX5_stuckOnes_14 : decode cX5_stuckOnes 14 = .ok (.iload_n 1, 1) := by decide +kernel
theorem dX5_stuckOnes_15 : decode cX5_stuckOnes 15 = .ok (.aload_n 0, 1) := by decide +kernel
theorem dX5_stuckOnes_16 : decode cX5_stuckOnes 16 = .ok (.iload_n 2, 1) := by decide +kernel
theorem dX5_stuckOnes_17 : decode cX5_stuckOnes 17 = .ok (.iconst 4, 1) := by decide +kernel
theorem dX5_stuckOnes_18 : decode cX5_stuckOnes 18 = .ok (.invokevirtual 116, 3) := by decide +kernel
theorem dX5_stuckOnes_21 : decode cX5_stuckOnes 21 = .ok (.ifCond .le 9, 3) := by decide +kernel
theorem dX5_stuckOnes_24 : decode cX5_stuckOnes 24 = .ok (.iconst 1, 1) := by decide +kernel
theorem dX5_stuckOnes_25 : decode cX5_stuckOnes 25 = .ok (.iload_n 2, 1) := by decide +kernel
theorem dX5_stuckOnes_26 : decode cX5_stuckOnes 26 = .ok (.ishl, 1) := by decide +kernel
theorem dX5_stuckOnes_27 : decode cX5_stuckOnes 27 = .ok (.goto 4, 3) := by decide +kernel
theorem dX5_stuckOnes_30 : decode cX5_stuckOnes 30 = .ok (.iconst 0, 1) := by decide +kernel
theorem dX5_stuckOnes_31 : decode cX5_stuckOnes 31 = .ok (.ior, 1) := by decide +kernel
theorem dX5_stuckOnes_32 : decode cX5_stuckOnes 32 = .ok (.istore_n 1, 1) := by decide +kernel
theorem dX5_stuckOnes_33 : decode cX5_stuckOnes 33 = .ok (.iinc 2 1, 3) := by decide +kernel
theorem dX5_stuckOnes_36 : decode cX5_stuckOnes 36 = .ok (.goto (-32), 3) := by decide +kernel
theorem dX5_stuckOnes_39 : decode cX5_stuckOnes 39 = .ok (.iload_n 1, 1) := by decide +kernel
theorem dX5_stuckOnes_40 : decode cX5_stuckOnes 40 = .ok (.ireturn, 1) := by decide +kernel
theorem dX5_arrived_0 : decode cX5_arrived 0 = .ok (.iconst 0, 1) := by decide +kernel
theorem dX5_arrived_1 : decode cX5_arrived 1 = .ok (.istore_n 1, 1) := by decide +kernel
theorem dX5_arrived_2 : decode cX5_arrived 2 = .ok (.iconst 0, 1) := by decide +kernel
theorem dX5_arrived_3 : decode cX5_arrived 3 = .ok (.istore_n 2, 1) := by decide +kernel
theorem dX5_arrived_4 : decode cX5_arrived 4 = .ok (.iload_n 2, 1) := by decide +kernel
theorem dX5_arrived_5 : decode cX5_arrived 5 = .ok (.aload_n 0, 1) := by decide +kernel
theorem dX5_arrived_6 : decode cX5_arrived 6 = .ok (.getfield 9, 3) := by decide +kernel
theorem dX5_arrived_9 : decode cX5_arrived 9 = .ok (.iconst 1, 1) := by decide +kernel
theorem dX5_arrived_10 : decode cX5_arrived 10 = .ok (.iaload, 1) := by decide +kernel
theorem dX5_arrived_11 : decode cX5_arrived 11 = .ok (.if_icmp .ge 34, 3) := by decide +kernel
theorem dX5_arrived_14 : decode cX5_arrived 14 = .ok (.iload_n 1, 1) := by decide +kernel
theorem dX5_arrived_15 : decode cX5_arrived 15 = .ok (.aload_n 0, 1) := by decide +kernel
theorem dX5_arrived_16 : decode cX5_arrived 16 = .ok (.iload_n 2, 1) := by decide +kernel
theorem dX5_arrived_17 : decode cX5_arrived 17 = .ok (.iconst 1, 1) := by decide +kernel
theorem dX5_arrived_18 : decode cX5_arrived 18 = .ok (.invokevirtual 116, 3) := by decide +kernel
theorem dX5_arrived_21 : decode cX5_arrived 21 = .ok (.aload_n 0, 1) := by decide +kernel
theorem dX5_arrived_22 : decode cX5_arrived 22 = .ok (.iload_n 2, 1) := by decide +kernel
theorem dX5_arrived_23 : decode cX5_arrived 23 = .ok (.iconst 3, 1) := by decide +kernel
theorem dX5_arrived_24 : decode cX5_arrived 24 = .ok (.invokevirtual 116, 3) := by decide +kernel
theorem dX5_arrived_27 : decode cX5_arrived 27 = .ok (.if_icmp .ne 9, 3) := by decide +kernel
theorem dX5_arrived_30 : decode cX5_arrived 30 = .ok (.iconst 1, 1) := by decide +kernel
theorem dX5_arrived_31 : decode cX5_arrived 31 = .ok (.iload_n 2, 1) := by decide +kernel
theorem dX5_arrived_32 : decode cX5_arrived 32 = .ok (.ishl, 1) := by decide +kernel
theorem dX5_arrived_33 : decode cX5_arrived 33 = .ok (.goto 4, 3) := by decide +kernel
theorem dX5_arrived_36 : decode cX5_arrived 36 = .ok (.iconst 0, 1) := by decide +kernel
theorem dX5_arrived_37 : decode cX5_arrived 37 = .ok (.ior, 1) := by decide +kernel
theorem dX5_arrived_38 : decode cX5_arrived 38 = .ok (.istore_n 1, 1) := by decide +kernel
theorem dX5_arrived_39 : decode cX5_arrived 39 = .ok (.iinc 2 1, 3) := by decide +kernel
theorem dX5_arrived_42 : decode cX5_arrived 42 = .ok (.goto (-38), 3) := by decide +kernel
theorem dX5_arrived_45 : decode cX5_arrived 45 = .ok (.iload_n 1, 1) := by decide +kernel
theorem dX5_arrived_46 : decode cX5_arrived 46 = .ok (.ireturn, 1) := by decide +kernel
theorem dX5_inTheHall_0 : decode cX5_inTheHall 0 = .ok (.iconst 0, 1) := by decide +kernel
theorem dX5_inTheHall_1 : decode cX5_inTheHall 1 = .ok (.istore_n 1, 1) := by decide +kernel
theorem dX5_inTheHall_2 : decode cX5_inTheHall 2 = .ok (.iconst 0, 1) := by decide +kernel
theorem dX5_inTheHall_3 : decode cX5_inTheHall 3 = .ok (.istore_n 2, 1) := by decide +kernel
theorem dX5_inTheHall_4 : decode cX5_inTheHall 4 = .ok (.iload_n 2, 1) := by decide +kernel
theorem dX5_inTheHall_5 : decode cX5_inTheHall 5 = .ok (.aload_n 0, 1) := by decide +kernel
theorem dX5_inTheHall_6 : decode cX5_inTheHall 6 = .ok (.getfield 9, 3) := by decide +kernel
theorem dX5_inTheHall_9 : decode cX5_inTheHall 9 = .ok (.iconst 1, 1) := by decide +kernel
theorem dX5_inTheHall_10 : decode cX5_inTheHall 10 = .ok (.iaload, 1) := by decide +kernel
theorem dX5_inTheHall_11 : decode cX5_inTheHall 11 = .ok (.if_icmp .ge 36, 3) := by decide +kernel
theorem dX5_inTheHall_14 : decode cX5_inTheHall 14 = .ok (.iload_n 1, 1) := by decide +kernel
theorem dX5_inTheHall_15 : decode cX5_inTheHall 15 = .ok (.aload_n 0, 1) := by decide +kernel
theorem dX5_inTheHall_16 : decode cX5_inTheHall 16 = .ok (.iload_n 2, 1) := by decide +kernel
theorem dX5_inTheHall_17 : decode cX5_inTheHall 17 = .ok (.invokevirtual 147, 3) := by decide +kernel
theorem dX5_inTheHall_20 : decode cX5_inTheHall 20 = .ok (.ifCond .eq 18, 3) := by decide +kernel
theorem dX5_inTheHall_23 : decode cX5_inTheHall 23 = .ok (.aload_n 0, 1) := by decide +kernel
theorem dX5_inTheHall_24 : decode cX5_inTheHall 24 = .ok (.iload_n 2, 1) := by decide +kernel
theorem dX5_inTheHall_25 : decode cX5_inTheHall 25 = .ok (.iconst 1, 1) := by decide +kernel
theorem dX5_inTheHall_26 : decode cX5_inTheHall 26 = .ok (.invokevirtual 116, 3) := by decide +kernel
theorem dX5_inTheHall_29 : decode cX5_inTheHall 29 = .ok (.ifCond .ne 9, 3) := by decide +kernel
theorem dX5_inTheHall_32 : decode cX5_inTheHall 32 = .ok (.iconst 1, 1) := by decide +kernel
theorem dX5_inTheHall_33 : decode cX5_inTheHall 33 = .ok (.iload_n 2, 1) := by decide +kernel
theorem dX5_inTheHall_34 : decode cX5_inTheHall 34 = .ok (.ishl, 1) := by decide +kernel
theorem dX5_inTheHall_35 : decode cX5_inTheHall 35 = .ok (.goto 4, 3) := by decide +kernel
theorem dX5_inTheHall_38 : decode cX5_inTheHall 38 = .ok (.iconst 0, 1) := by decide +kernel
theorem dX5_inTheHall_39 : decode cX5_inTheHall 39 = .ok (.ior, 1) := by decide +kernel
theorem dX5_inTheHall_40 : decode cX5_inTheHall 40 = .ok (.istore_n 1, 1) := by decide +kernel
theorem dX5_inTheHall_41 : decode cX5_inTheHall 41 = .ok (.iinc 2 1, 3) := by decide +kernel
theorem dX5_inTheHall_44 : decode cX5_inTheHall 44 = .ok (.goto (-40), 3) := by decide +kernel
theorem dX5_inTheHall_47 : decode cX5_inTheHall 47 = .ok (.iload_n 1, 1) := by decide +kernel
theorem dX5_inTheHall_48 : decode cX5_inTheHall 48 = .ok (.ireturn, 1) := by decide +kernel
theorem dX5_shutCells_0 : decode cX5_shutCells 0 = .ok (.iconst 0, 1) := by decide +kernel
theorem dX5_shutCells_1 : decode cX5_shutCells 1 = .ok (.istore_n 1, 1) := by decide +kernel
theorem dX5_shutCells_2 : decode cX5_shutCells 2 = .ok (.iconst 0, 1) := by decide +kernel
theorem dX5_shutCells_3 : decode cX5_shutCells 3 = .ok (.istore_n 2, 1) := by decide +kernel
theorem dX5_shutCells_4 : decode cX5_shutCells 4 = .ok (.iload_n 2, 1) := by decide +kernel
theorem dX5_shutCells_5 : decode cX5_shutCells 5 = .ok (.bipush 16, 2) := by decide +kernel
theorem dX5_shutCells_7 : decode cX5_shutCells 7 = .ok (.if_icmp .ge 31, 3) := by decide +kernel
theorem dX5_shutCells_10 : decode cX5_shutCells 10 = .ok (.iload_n 1, 1) := by decide +kernel
theorem dX5_shutCells_11 : decode cX5_shutCells 11 = .ok (.aload_n 0, 1) := by decide +kernel
theorem dX5_shutCells_12 : decode cX5_shutCells 12 = .ok (.iload_n 2, 1) := by decide +kernel
theorem dX5_shutCells_13 : decode cX5_shutCells 13 = .ok (.aload_n 0, 1) := by decide +kernel
theorem dX5_shutCells_14 : decode cX5_shutCells 14 = .ok (.invokevirtual 150, 3) := by decide +kernel
theorem dX5_shutCells_17 : decode cX5_shutCells 17 = .ok (.invokevirtual 103, 3) := by decide +kernel
theorem dX5_shutCells_20 : decode cX5_shutCells 20 = .ok (.ifCond .ne 9, 3) := by decide +kernel
theorem dX5_shutCells_23 : decode cX5_shutCells 23 = .ok (.iconst 1, 1) := by decide +kernel
theorem dX5_shutCells_24 : decode cX5_shutCells 24 = .ok (.iload_n 2, 1) := by decide +kernel
theorem dX5_shutCells_25 : decode cX5_shutCells 25 = .ok (.ishl, 1) := by decide +kernel
theorem dX5_shutCells_26 : decode cX5_shutCells 26 = .ok (.goto 4, 3) := by decide +kernel
theorem dX5_shutCells_29 : decode cX5_shutCells 29 = .ok (.iconst 0, 1) := by decide +kernel
theorem dX5_shutCells_30 : decode cX5_shutCells 30 = .ok (.ior, 1) := by decide +kernel
theorem dX5_shutCells_31 : decode cX5_shutCells 31 = .ok (.istore_n 1, 1) := by decide +kernel
theorem dX5_shutCells_32 : decode cX5_shutCells 32 = .ok (.iinc 2 1, 3) := by decide +kernel
theorem dX5_shutCells_35 : decode cX5_shutCells 35 = .ok (.goto (-31), 3) := by decide +kernel
theorem dX5_shutCells_38 : decode cX5_shutCells 38 = .ok (.iload_n 1, 1) := by decide +kernel
theorem dX5_shutCells_39 : decode cX5_shutCells 39 = .ok (.ireturn, 1) := by decide +kernel
theorem dX5_now_0 : decode cX5_now 0 = .ok (.iload_n 1, 1) := by decide +kernel
theorem dX5_now_1 : decode cX5_now 1 = .ok (.tableswitch 93 0 7 #[47, 54, 59, 66, 73, 78, 83, 88], 47) := by decide +kernel
theorem dX5_now_48 : decode cX5_now 48 = .ok (.aload_n 0, 1) := by decide +kernel
theorem dX5_now_49 : decode cX5_now 49 = .ok (.getfield 9, 3) := by decide +kernel
theorem dX5_now_52 : decode cX5_now 52 = .ok (.iconst 0, 1) := by decide +kernel
theorem dX5_now_53 : decode cX5_now 53 = .ok (.iaload, 1) := by decide +kernel
theorem dX5_now_54 : decode cX5_now 54 = .ok (.ireturn, 1) := by decide +kernel
theorem dX5_now_55 : decode cX5_now 55 = .ok (.aload_n 0, 1) := by decide +kernel
theorem dX5_now_56 : decode cX5_now 56 = .ok (.invokevirtual 150, 3) := by decide +kernel
theorem dX5_now_59 : decode cX5_now 59 = .ok (.ireturn, 1) := by decide +kernel
theorem dX5_now_60 : decode cX5_now 60 = .ok (.aload_n 0, 1) := by decide +kernel
theorem dX5_now_61 : decode cX5_now 61 = .ok (.getfield 9, 3) := by decide +kernel
theorem dX5_now_64 : decode cX5_now 64 = .ok (.iconst 4, 1) := by decide +kernel
theorem dX5_now_65 : decode cX5_now 65 = .ok (.iaload, 1) := by decide +kernel
theorem dX5_now_66 : decode cX5_now 66 = .ok (.ireturn, 1) := by decide +kernel
theorem dX5_now_67 : decode cX5_now 67 = .ok (.aload_n 0, 1) := by decide +kernel
theorem dX5_now_68 : decode cX5_now 68 = .ok (.getfield 9, 3) := by decide +kernel
theorem dX5_now_71 : decode cX5_now 71 = .ok (.iconst 5, 1) := by decide +kernel
theorem dX5_now_72 : decode cX5_now 72 = .ok (.iaload, 1) := by decide +kernel
theorem dX5_now_73 : decode cX5_now 73 = .ok (.ireturn, 1) := by decide +kernel
theorem dX5_now_74 : decode cX5_now 74 = .ok (.aload_n 0, 1) := by decide +kernel
theorem dX5_now_75 : decode cX5_now 75 = .ok (.invokevirtual 169, 3) := by decide +kernel
theorem dX5_now_78 : decode cX5_now 78 = .ok (.ireturn, 1) := by decide +kernel
theorem dX5_now_79 : decode cX5_now 79 = .ok (.aload_n 0, 1) := by decide +kernel
theorem dX5_now_80 : decode cX5_now 80 = .ok (.invokevirtual 172, 3) := by decide +kernel
theorem dX5_now_83 : decode cX5_now 83 = .ok (.ireturn, 1) := by decide +kernel
theorem dX5_now_84 : decode cX5_now 84 = .ok (.aload_n 0, 1) := by decide +kernel
theorem dX5_now_85 : decode cX5_now 85 = .ok (.invokevirtual 175, 3) := by decide +kernel
theorem dX5_now_88 : decode cX5_now 88 = .ok (.ireturn, 1) := by decide +kernel
theorem dX5_now_89 : decode cX5_now 89 = .ok (.aload_n 0, 1) := by decide +kernel
theorem dX5_now_90 : decode cX5_now 90 = .ok (.invokevirtual 178, 3) := by decide +kernel
theorem dX5_now_93 : decode cX5_now 93 = .ok (.ireturn, 1) := by decide +kernel
theorem dX5_now_94 : decode cX5_now 94 = .ok (.aload_n 0, 1) := by decide +kernel
theorem dX5_now_95 : decode cX5_now 95 = .ok (.ldc 60, 2) := by decide +kernel
theorem dX5_now_97 : decode cX5_now 97 = .ok (.invokevirtual 66, 3) := by decide +kernel
theorem dX5_now_100 : decode cX5_now 100 = .ok (.ireturn, 1) := by decide +kernel
theorem dX5_behind_0 : decode cX5_behind 0 = .ok (.aload_n 0, 1) := by decide +kernel
theorem dX5_behind_1 : decode cX5_behind 1 = .ok (.getfield 9, 3) := by decide +kernel
theorem dX5_behind_4 : decode cX5_behind 4 = .ok (.aload_n 0, 1) := by decide +kernel
theorem dX5_behind_5 : decode cX5_behind 5 = .ok (.getfield 16, 3) := by decide +kernel
theorem dX5_behind_8 : decode cX5_behind 8 = .ok (.invokestatic 61, 3) := by decide +kernel
theorem dX5_behind_11 : decode cX5_behind 11 = .ok (.aload_n 0, 1) := by decide +kernel
theorem dX5_behind_12 : decode cX5_behind 12 = .ok (.iload_n 2, 1) := by decide +kernel
theorem dX5_behind_13 : decode cX5_behind 13 = .ok (.invokevirtual 166, 3) := by decide +kernel
theorem dX5_behind_16 : decode cX5_behind 16 = .ok (.aload_n 0, 1) := by decide +kernel
theorem dX5_behind_17 : decode cX5_behind 17 = .ok (.aload_n 0, 1) := by decide +kernel
theorem dX5_behind_18 : decode cX5_behind 18 = .ok (.getfield 9, 3) := by decide +kernel
theorem dX5_behind_21 : decode cX5_behind 21 = .ok (.iload_n 1, 1) := by decide +kernel
theorem dX5_behind_22 : decode cX5_behind 22 = .ok (.iaload, 1) := by decide +kernel
theorem dX5_behind_23 : decode cX5_behind 23 = .ok (.invokevirtual 181, 3) := by decide +kernel
theorem dX5_behind_26 : decode cX5_behind 26 = .ok (.ireturn, 1) := by decide +kernel
theorem dX5_ahead_0 : decode cX5_ahead 0 = .ok (.iload_n 2, 1) := by decide +kernel
theorem dX5_ahead_1 : decode cX5_ahead 1 = .ok (.iconst 1, 1) := by decide +kernel
theorem dX5_ahead_2 : decode cX5_ahead 2 = .ok (.if_icmp .eq 14, 3) := by decide +kernel
theorem dX5_ahead_5 : decode cX5_ahead 5 = .ok (.iload_n 2, 1) := by decide +kernel
theorem dX5_ahead_6 : decode cX5_ahead 6 = .ok (.iconst 4, 1) := by decide +kernel
theorem dX5_ahead_7 : decode cX5_ahead 7 = .ok (.if_icmp .eq 9, 3) := by decide +kernel
theorem dX5_ahead_10 : decode cX5_ahead 10 = .ok (.iload_n 2, 1) := by decide +kernel
theorem dX5_ahead_11 : decode cX5_ahead 11 = .ok (.bipush 6, 2) := by decide +kernel
theorem dX5_ahead_13 : decode cX5_ahead 13 = .ok (.if_icmp .ne 7, 3) := by decide +kernel
theorem dX5_ahead_16 : decode cX5_ahead 16 = .ok (.iconst 1, 1) := by decide +kernel
theorem dX5_ahead_17 : decode cX5_ahead 17 = .ok (.goto 4, 3) := by decide +kernel
theorem dX5_ahead_20 : decode cX5_ahead 20 = .ok (.iconst 0, 1) := by decide +kernel
theorem dX5_ahead_21 : decode cX5_ahead 21 = .ok (.istore 4, 2) := by decide +kernel
theorem dX5_ahead_23 : decode cX5_ahead 23 = .ok (.aload_n 0, 1) := by decide +kernel
theorem dX5_ahead_24 : decode cX5_ahead 24 = .ok (.iload_n 1, 1) := by decide +kernel
theorem dX5_ahead_25 : decode cX5_ahead 25 = .ok (.invokevirtual 131, 3) := by decide +kernel
theorem dX5_ahead_28 : decode cX5_ahead 28 = .ok (.ifCond .eq 18, 3) := by decide +kernel
theorem dX5_ahead_31 : decode cX5_ahead 31 = .ok (.iload 4, 2) := by decide +kernel
theorem dX5_ahead_33 : decode cX5_ahead 33 = .ok (.ifCond .eq 13, 3) := by decide +kernel
theorem dX5_ahead_36 : decode cX5_ahead 36 = .ok (.iload_n 3, 1) := by decide +kernel
theorem dX5_ahead_37 : decode cX5_ahead 37 = .ok (.iconst 0, 1) := by decide +kernel
theorem dX5_ahead_38 : decode cX5_ahead 38 = .ok (.bipush 100, 2) := by decide +kernel
theorem dX5_ahead_40 : decode cX5_ahead 40 = .ok (.invokestatic 70, 3) := by decide +kernel
theorem dX5_ahead_43 : decode cX5_ahead 43 = .ok (.ifCond .ne 10, 3) := by decide +kernel
theorem dX5_ahead_46 : decode cX5_ahead 46 = .ok (.aload_n 0, 1) := by decide +kernel
theorem dX5_ahead_47 : decode cX5_ahead 47 = .ok (.ldc 60, 2) := by decide +kernel
theorem dX5_ahead_49 : decode cX5_ahead 49 = .ok (.invokevirtual 66, 3) := by decide +kernel
theorem dX5_ahead_52 : decode cX5_ahead 52 = .ok (.ireturn, 1) := by decide +kernel
theorem dX5_ahead_53 : decode cX5_ahead 53 = .ok (.aload_n 0, 1) := by decide +kernel
theorem dX5_ahead_54 : decode cX5_ahead 54 = .ok (.getfield 9, 3) := by decide +kernel
theorem dX5_ahead_57 : decode cX5_ahead 57 = .ok (.aload_n 0, 1) := by decide +kernel
theorem dX5_ahead_58 : decode cX5_ahead 58 = .ok (.getfield 16, 3) := by decide +kernel
theorem dX5_ahead_61 : decode cX5_ahead 61 = .ok (.invokestatic 61, 3) := by decide +kernel
theorem dX5_ahead_64 : decode cX5_ahead 64 = .ok (.aload_n 0, 1) := by decide +kernel
theorem dX5_ahead_65 : decode cX5_ahead 65 = .ok (.iload_n 3, 1) := by decide +kernel
theorem dX5_ahead_66 : decode cX5_ahead 66 = .ok (.invokevirtual 166, 3) := by decide +kernel
theorem dX5_ahead_69 : decode cX5_ahead 69 = .ok (.aload_n 0, 1) := by decide +kernel
theorem dX5_ahead_70 : decode cX5_ahead 70 = .ok (.aload_n 0, 1) := by decide +kernel
theorem dX5_ahead_71 : decode cX5_ahead 71 = .ok (.iload_n 1, 1) := by decide +kernel
theorem dX5_ahead_72 : decode cX5_ahead 72 = .ok (.iload_n 2, 1) := by decide +kernel
theorem dX5_ahead_73 : decode cX5_ahead 73 = .ok (.invokevirtual 134, 3) := by decide +kernel
theorem dX5_ahead_76 : decode cX5_ahead 76 = .ok (.invokevirtual 181, 3) := by decide +kernel
theorem dX5_ahead_79 : decode cX5_ahead 79 = .ok (.ireturn, 1) := by decide +kernel
theorem dX5_strain_0 : decode cX5_strain 0 = .ok (.iload_n 1, 1) := by decide +kernel
theorem dX5_strain_1 : decode cX5_strain 1 = .ok (.iconst 0, 1) := by decide +kernel
theorem dX5_strain_2 : decode cX5_strain 2 = .ok (.bipush 100, 2) := by decide +kernel
theorem dX5_strain_4 : decode cX5_strain 4 = .ok (.invokestatic 70, 3) := by decide +kernel
theorem dX5_strain_7 : decode cX5_strain 7 = .ok (.ifCond .eq 12, 3) := by decide +kernel
theorem dX5_strain_10 : decode cX5_strain 10 = .ok (.aload_n 0, 1) := by decide +kernel
theorem dX5_strain_11 : decode cX5_strain 11 = .ok (.iconst 4, 1) := by decide +kernel
theorem dX5_strain_12 : decode cX5_strain 12 = .ok (.iload_n 1, 1) := by decide +kernel
theorem dX5_strain_13 : decode cX5_strain 13 = .ok (.invokevirtual 184, 3) := by decide +kernel
theorem dX5_strain_16 : decode cX5_strain 16 = .ok (.goto 9, 3) := by decide +kernel
theorem dX5_strain_19 : decode cX5_strain 19 = .ok (.aload_n 0, 1) := by decide +kernel
theorem dX5_strain_20 : decode cX5_strain 20 = .ok (.ldc 60, 2) := by decide +kernel
theorem dX5_strain_22 : decode cX5_strain 22 = .ok (.invokevirtual 66, 3) := by decide +kernel
theorem dX5_strain_25 : decode cX5_strain 25 = .ok (.ireturn, 1) := by decide +kernel
theorem dX5_hoursTo_0 : decode cX5_hoursTo 0 = .ok (.aload_n 0, 1) := by decide +kernel
theorem dX5_hoursTo_1 : decode cX5_hoursTo 1 = .ok (.getfield 9, 3) := by decide +kernel
theorem dX5_hoursTo_4 : decode cX5_hoursTo 4 = .ok (.aload_n 0, 1) := by decide +kernel
theorem dX5_hoursTo_5 : decode cX5_hoursTo 5 = .ok (.getfield 16, 3) := by decide +kernel
theorem dX5_hoursTo_8 : decode cX5_hoursTo 8 = .ok (.invokestatic 61, 3) := by decide +kernel
theorem dX5_hoursTo_11 : decode cX5_hoursTo 11 = .ok (.iconst 0, 1) := by decide +kernel
theorem dX5_hoursTo_12 : decode cX5_hoursTo 12 = .ok (.istore 4, 2) := by decide +kernel
theorem dX5_hoursTo_14 : decode cX5_hoursTo 14 = .ok (.iload 4, 2) := by decide +kernel
theorem dX5_hoursTo_16 : decode cX5_hoursTo 16 = .ok (.sipush 200, 3) := by decide +kernel
theorem dX5_hoursTo_19 : decode cX5_hoursTo 19 = .ok (.if_icmp .ge 27, 3) := by decide +kernel
theorem dX5_hoursTo_22 : decode cX5_hoursTo 22 = .ok (.aload_n 0, 1) := by decide +kernel
theorem dX5_hoursTo_23 : decode cX5_hoursTo 23 = .ok (.getfield 9, 3) := by decide +kernel
theorem dX5_hoursTo_26 : decode cX5_hoursTo 26 = .ok (.iload_n 1, 1) := by decide +kernel
theorem dX5_hoursTo_27 : decode cX5_hoursTo 27 = .ok (.iaload, 1) := by decide +kernel
theorem dX5_hoursTo_28 : decode cX5_hoursTo 28 = .ok (.iload_n 2, 1) := by decide +kernel
theorem dX5_hoursTo_29 : decode cX5_hoursTo 29 = .ok (.iload_n 3, 1) := by decide +kernel
theorem dX5_hoursTo_30 : decode cX5_hoursTo 30 = .ok (.invokestatic 70, 3) := by decide +kernel
theorem dX5_hoursTo_33 : decode cX5_hoursTo 33 = .ok (.ifCond .ne 13, 3) := by decide +kernel
theorem dX5_hoursTo_36 : decode cX5_hoursTo 36 = .ok (.aload_n 0, 1) := by decide +kernel
theorem dX5_hoursTo_37 : decode cX5_hoursTo 37 = .ok (.invokevirtual 162, 3) := by decide +kernel
theorem dX5_hoursTo_40 : decode cX5_hoursTo 40 = .ok (.iinc 4 1, 3) := by decide +kernel
theorem dX5_hoursTo_43 : decode cX5_hoursTo 43 = .ok (.goto (-29), 3) := by decide +kernel
theorem dX5_hoursTo_46 : decode cX5_hoursTo 46 = .ok (.aload_n 0, 1) := by decide +kernel
theorem dX5_hoursTo_47 : decode cX5_hoursTo 47 = .ok (.aload_n 0, 1) := by decide +kernel
theorem dX5_hoursTo_48 : decode cX5_hoursTo 48 = .ok (.getfield 9, 3) := by decide +kernel
theorem dX5_hoursTo_51 : decode cX5_hoursTo 51 = .ok (.iload_n 1, 1) := by decide +kernel
theorem dX5_hoursTo_52 : decode cX5_hoursTo 52 = .ok (.iaload, 1) := by decide +kernel
theorem dX5_hoursTo_53 : decode cX5_hoursTo 53 = .ok (.iload_n 2, 1) := by decide +kernel
theorem dX5_hoursTo_54 : decode cX5_hoursTo 54 = .ok (.iload_n 3, 1) := by decide +kernel
theorem dX5_hoursTo_55 : decode cX5_hoursTo 55 = .ok (.invokestatic 70, 3) := by decide +kernel
theorem dX5_hoursTo_58 : decode cX5_hoursTo 58 = .ok (.ifCond .eq 8, 3) := by decide +kernel
theorem dX5_hoursTo_61 : decode cX5_hoursTo 61 = .ok (.iload 4, 2) := by decide +kernel
theorem dX5_hoursTo_63 : decode cX5_hoursTo 63 = .ok (.goto 4, 3) := by decide +kernel
theorem dX5_hoursTo_66 : decode cX5_hoursTo 66 = .ok (.iconst (-1), 1) := by decide +kernel
theorem dX5_hoursTo_67 : decode cX5_hoursTo 67 = .ok (.invokevirtual 181, 3) := by decide +kernel
theorem dX5_hoursTo_70 : decode cX5_hoursTo 70 = .ok (.ireturn, 1) := by decide +kernel
theorem dX5_snaps_0 : decode cX5_snaps 0 = .ok (.aload_n 0, 1) := by decide +kernel
theorem dX5_snaps_1 : decode cX5_snaps 1 = .ok (.aload_n 0, 1) := by decide +kernel
theorem dX5_snaps_2 : decode cX5_snaps 2 = .ok (.iconst 5, 1) := by decide +kernel
theorem dX5_snaps_3 : decode cX5_snaps 3 = .ok (.iconst 1, 1) := by decide +kernel
theorem dX5_snaps_4 : decode cX5_snaps 4 = .ok (.iconst 1, 1) := by decide +kernel
theorem dX5_snaps_5 : decode cX5_snaps 5 = .ok (.invokevirtual 187, 3) := by decide +kernel
theorem dX5_snaps_8 : decode cX5_snaps 8 = .ok (.invokevirtual 191, 3) := by decide +kernel
theorem dX5_snaps_11 : decode cX5_snaps 11 = .ok (.ireturn, 1) := by decide +kernel
theorem dX5_comes_0 : decode cX5_comes 0 = .ok (.aload_n 0, 1) := by decide +kernel
theorem dX5_comes_1 : decode cX5_comes 1 = .ok (.iload_n 1, 1) := by decide +kernel
theorem dX5_comes_2 : decode cX5_comes 2 = .ok (.invokevirtual 131, 3) := by decide +kernel
theorem dX5_comes_5 : decode cX5_comes 5 = .ok (.ifCond .eq 28, 3) := by decide +kernel
theorem dX5_comes_8 : decode cX5_comes 8 = .ok (.iload_n 2, 1) := by decide +kernel
theorem dX5_comes_9 : decode cX5_comes 9 = .ok (.invokestatic 82, 3) := by decide +kernel
theorem dX5_comes_12 : decode cX5_comes 12 = .ok (.ifCond .eq 21, 3) := by decide +kernel
theorem dX5_comes_15 : decode cX5_comes 15 = .ok (.aload_n 0, 1) := by decide +kernel
theorem dX5_comes_16 : decode cX5_comes 16 = .ok (.aload_n 0, 1) := by decide +kernel
theorem dX5_comes_17 : decode cX5_comes 17 = .ok (.iload_n 1, 1) := by decide +kernel
theorem dX5_comes_18 : decode cX5_comes 18 = .ok (.iconst 1, 1) := by decide +kernel
theorem dX5_comes_19 : decode cX5_comes 19 = .ok (.invokestatic 106, 3) := by decide +kernel
theorem dX5_comes_22 : decode cX5_comes 22 = .ok (.iload_n 2, 1) := by decide +kernel
theorem dX5_comes_23 : decode cX5_comes 23 = .ok (.iload_n 2, 1) := by decide +kernel
theorem dX5_comes_24 : decode cX5_comes 24 = .ok (.invokevirtual 187, 3) := by decide +kernel
theorem dX5_comes_27 : decode cX5_comes 27 = .ok (.invokevirtual 191, 3) := by decide +kernel
theorem dX5_comes_30 : decode cX5_comes 30 = .ok (.goto 9, 3) := by decide +kernel
theorem dX5_comes_33 : decode cX5_comes 33 = .ok (.aload_n 0, 1) := by decide +kernel
theorem dX5_comes_34 : decode cX5_comes 34 = .ok (.ldc 60, 2) := by decide +kernel
theorem dX5_comes_36 : decode cX5_comes 36 = .ok (.invokevirtual 66, 3) := by decide +kernel
theorem dX5_comes_39 : decode cX5_comes 39 = .ok (.ireturn, 1) := by decide +kernel
theorem dX5_stuck_0 : decode cX5_stuck 0 = .ok (.aload_n 0, 1) := by decide +kernel
theorem dX5_stuck_1 : decode cX5_stuck 1 = .ok (.iload_n 1, 1) := by decide +kernel
theorem dX5_stuck_2 : decode cX5_stuck 2 = .ok (.invokevirtual 131, 3) := by decide +kernel
theorem dX5_stuck_5 : decode cX5_stuck 5 = .ok (.ifCond .eq 30, 3) := by decide +kernel
theorem dX5_stuck_8 : decode cX5_stuck 8 = .ok (.iload_n 2, 1) := by decide +kernel
theorem dX5_stuck_9 : decode cX5_stuck 9 = .ok (.invokestatic 74, 3) := by decide +kernel
theorem dX5_stuck_12 : decode cX5_stuck 12 = .ok (.ifCond .eq 23, 3) := by decide +kernel
theorem dX5_stuck_15 : decode cX5_stuck 15 = .ok (.aload_n 0, 1) := by decide +kernel
theorem dX5_stuck_16 : decode cX5_stuck 16 = .ok (.aload_n 0, 1) := by decide +kernel
theorem dX5_stuck_17 : decode cX5_stuck 17 = .ok (.iload_n 1, 1) := by decide +kernel
theorem dX5_stuck_18 : decode cX5_stuck 18 = .ok (.iconst 4, 1) := by decide +kernel
theorem dX5_stuck_19 : decode cX5_stuck 19 = .ok (.invokestatic 106, 3) := by decide +kernel
theorem dX5_stuck_22 : decode cX5_stuck 22 = .ok (.iload_n 2, 1) := by decide +kernel
theorem dX5_stuck_23 : decode cX5_stuck 23 = .ok (.sipush 9999, 3) := by decide +kernel
theorem dX5_stuck_26 : decode cX5_stuck 26 = .ok (.invokevirtual 187, 3) := by decide +kernel
theorem dX5_stuck_29 : decode cX5_stuck 29 = .ok (.invokevirtual 191, 3) := by decide +kernel
theorem dX5_stuck_32 : decode cX5_stuck 32 = .ok (.goto 9, 3) := by decide +kernel
theorem dX5_stuck_35 : decode cX5_stuck 35 = .ok (.aload_n 0, 1) := by decide +kernel
theorem dX5_stuck_36 : decode cX5_stuck 36 = .ok (.ldc 60, 2) := by decide +kernel
theorem dX5_stuck_38 : decode cX5_stuck 38 = .ok (.invokevirtual 66, 3) := by decide +kernel
theorem dX5_stuck_41 : decode cX5_stuck 41 = .ok (.ireturn, 1) := by decide +kernel
theorem dX5_isThought_0 : decode cX5_isThought 0 = .ok (.iload_n 0, 1) := by decide +kernel
theorem dX5_isThought_1 : decode cX5_isThought 1 = .ok (.iconst 0, 1) := by decide +kernel
theorem dX5_isThought_2 : decode cX5_isThought 2 = .ok (.bipush 60, 2) := by decide +kernel
theorem dX5_isThought_4 : decode cX5_isThought 4 = .ok (.invokestatic 70, 3) := by decide +kernel
theorem dX5_isThought_7 : decode cX5_isThought 7 = .ok (.ireturn, 1) := by decide +kernel
theorem dX5_tight_0 : decode cX5_tight 0 = .ok (.iload_n 1, 1) := by decide +kernel
theorem dX5_tight_1 : decode cX5_tight 1 = .ok (.invokestatic 88, 3) := by decide +kernel
theorem dX5_tight_4 : decode cX5_tight 4 = .ok (.ifCond .eq 10, 3) := by decide +kernel
theorem dX5_tight_7 : decode cX5_tight 7 = .ok (.iload_n 2, 1) := by decide +kernel
theorem dX5_tight_8 : decode cX5_tight 8 = .ok (.invokestatic 194, 3) := by decide +kernel
theorem dX5_tight_11 : decode cX5_tight 11 = .ok (.ifCond .ne 10, 3) := by decide +kernel
theorem dX5_tight_14 : decode cX5_tight 14 = .ok (.aload_n 0, 1) := by decide +kernel
theorem dX5_tight_15 : decode cX5_tight 15 = .ok (.ldc 60, 2) := by decide +kernel
theorem dX5_tight_17 : decode cX5_tight 17 = .ok (.invokevirtual 66, 3) := by decide +kernel
theorem dX5_tight_20 : decode cX5_tight 20 = .ok (.ireturn, 1) := by decide +kernel
theorem dX5_tight_21 : decode cX5_tight 21 = .ok (.aload_n 0, 1) := by decide +kernel
theorem dX5_tight_22 : decode cX5_tight 22 = .ok (.getfield 9, 3) := by decide +kernel
theorem dX5_tight_25 : decode cX5_tight 25 = .ok (.bipush 6, 2) := by decide +kernel
theorem dX5_tight_27 : decode cX5_tight 27 = .ok (.iload_n 1, 1) := by decide +kernel
theorem dX5_tight_28 : decode cX5_tight 28 = .ok (.iadd, 1) := by decide +kernel
theorem dX5_tight_29 : decode cX5_tight 29 = .ok (.iaload, 1) := by decide +kernel
theorem dX5_tight_30 : decode cX5_tight 30 = .ok (.istore_n 3, 1) := by decide +kernel
theorem dX5_tight_31 : decode cX5_tight 31 = .ok (.iconst (-1), 1) := by decide +kernel
theorem dX5_tight_32 : decode cX5_tight 32 = .ok (.istore 4, 2) := by decide +kernel
theorem dX5_tight_34 : decode cX5_tight 34 = .ok (.bipush 36, 2) := by decide +kernel
theorem dX5_tight_36 : decode cX5_tight 36 = .ok (.istore 5, 2) := by decide +kernel
theorem dX5_tight_38 : decode cX5_tight 38 = .ok (.iload 5, 2) := by decide +kernel
theorem dX5_tight_40 : decode cX5_tight 40 = .ok (.bipush 16, 2) := by decide +kernel
theorem dX5_tight_42 : decode cX5_tight 42 = .ok (.if_icmp .lt 38, 3) := by decide +kernel
theorem dX5_tight_45 : decode cX5_tight 45 = .ok (.aload_n 0, 1) := by decide +kernel
theorem dX5_tight_46 : decode cX5_tight 46 = .ok (.getfield 9, 3) := by decide +kernel
theorem dX5_tight_49 : decode cX5_tight 49 = .ok (.bipush 6, 2) := by decide +kernel
theorem dX5_tight_51 : decode cX5_tight 51 = .ok (.iload_n 1, 1) := by decide +kernel
theorem dX5_tight_52 : decode cX5_tight 52 = .ok (.iadd, 1) := by decide +kernel
theorem dX5_tight_53 : decode cX5_tight 53 = .ok (.iload 5, 2) := by decide +kernel
theorem dX5_tight_55 : decode cX5_tight 55 = .ok (.iastore, 1) := by decide +kernel
theorem dX5_tight_56 : decode cX5_tight 56 = .ok (.aload_n 0, 1) := by decide +kernel
theorem dX5_tight_57 : decode cX5_tight 57 = .ok (.iconst 5, 1) := by decide +kernel
theorem dX5_tight_58 : decode cX5_tight 58 = .ok (.iload_n 2, 1) := by decide +kernel
theorem dX5_tight_59 : decode cX5_tight 59 = .ok (.invokevirtual 184, 3) := by decide +kernel
theorem dX5_tight_62 : decode cX5_tight 62 = .ok (.ifCond .ne 8, 3) := by decide +kernel
theorem dX5_tight_65 : decode cX5_tight 65 = .ok (.iload 5, 2) := by decide +kernel
theorem dX5_tight_67 : decode cX5_tight 67 = .ok (.goto 5, 3) := by decide +kernel
theorem dX5_tight_70 : decode cX5_tight 70 = .ok (.iload 4, 2) := by decide +kernel
theorem dX5_tight_72 : decode cX5_tight 72 = .ok (.istore 4, 2) := by decide +kernel
theorem dX5_tight_74 : decode cX5_tight 74 = .ok (.iinc 5 (-1), 3) := by decide +kernel
theorem dX5_tight_77 : decode cX5_tight 77 = .ok (.goto (-39), 3) := by decide +kernel
theorem dX5_tight_80 : decode cX5_tight 80 = .ok (.aload_n 0, 1) := by decide +kernel
theorem dX5_tight_81 : decode cX5_tight 81 = .ok (.getfield 9, 3) := by decide +kernel
theorem dX5_tight_84 : decode cX5_tight 84 = .ok (.bipush 6, 2) := by decide +kernel
theorem dX5_tight_86 : decode cX5_tight 86 = .ok (.iload_n 1, 1) := by decide +kernel
theorem dX5_tight_87 : decode cX5_tight 87 = .ok (.iadd, 1) := by decide +kernel
theorem dX5_tight_88 : decode cX5_tight 88 = .ok (.iload_n 3, 1) := by decide +kernel
theorem dX5_tight_89 : decode cX5_tight 89 = .ok (.iastore, 1) := by decide +kernel
theorem dX5_tight_90 : decode cX5_tight 90 = .ok (.aload_n 0, 1) := by decide +kernel
theorem dX5_tight_91 : decode cX5_tight 91 = .ok (.iload 4, 2) := by decide +kernel
theorem dX5_tight_93 : decode cX5_tight 93 = .ok (.invokevirtual 191, 3) := by decide +kernel
theorem dX5_tight_96 : decode cX5_tight 96 = .ok (.ireturn, 1) := by decide +kernel
theorem dX5_measureFor_0 : decode cX5_measureFor 0 = .ok (.aload_n 0, 1) := by decide +kernel
theorem dX5_measureFor_1 : decode cX5_measureFor 1 = .ok (.iload_n 1, 1) := by decide +kernel
theorem dX5_measureFor_2 : decode cX5_measureFor 2 = .ok (.invokevirtual 131, 3) := by decide +kernel
theorem dX5_measureFor_5 : decode cX5_measureFor 5 = .ok (.ifCond .eq 10, 3) := by decide +kernel
theorem dX5_measureFor_8 : decode cX5_measureFor 8 = .ok (.iload_n 2, 1) := by decide +kernel
theorem dX5_measureFor_9 : decode cX5_measureFor 9 = .ok (.invokestatic 82, 3) := by decide +kernel
theorem dX5_measureFor_12 : decode cX5_measureFor 12 = .ok (.ifCond .ne 10, 3) := by decide +kernel
theorem dX5_measureFor_15 : decode cX5_measureFor 15 = .ok (.aload_n 0, 1) := by decide +kernel
theorem dX5_measureFor_16 : decode cX5_measureFor 16 = .ok (.ldc 60, 2) := by decide +kernel
theorem dX5_measureFor_18 : decode cX5_measureFor 18 = .ok (.invokevirtual 66, 3) := by decide +kernel
theorem dX5_measureFor_21 : decode cX5_measureFor 21 = .ok (.ireturn, 1) := by decide +kernel
theorem dX5_measureFor_22 : decode cX5_measureFor 22 = .ok (.iconst (-1), 1) := by decide +kernel
theorem dX5_measureFor_23 : decode cX5_measureFor 23 = .ok (.istore_n 3, 1) := by decide +kernel
theorem dX5_measureFor_24 : decode cX5_measureFor 24 = .ok (.bipush 16, 2) := by decide +kernel
theorem dX5_measureFor_26 : decode cX5_measureFor 26 = .ok (.istore 4, 2) := by decide +kernel
theorem dX5_measureFor_28 : decode cX5_measureFor 28 = .ok (.iload 4, 2) := by decide +kernel
theorem dX5_measureFor_30 : decode cX5_measureFor 30 = .ok (.bipush 36, 2) := by decide +kernel
theorem dX5_measureFor_32 : decode cX5_measureFor 32 = .ok (.if_icmp .gt 35, 3) := by decide +kernel
theorem dX5_measureFor_35 : decode cX5_measureFor 35 = .ok (.iload_n 3, 1) := by decide +kernel
theorem dX5_measureFor_36 : decode cX5_measureFor 36 = .ok (.ifCond .ge 31, 3) := by decide +kernel
theorem dX5_measureFor_39 : decode cX5_measureFor 39 = .ok (.aload_n 0, 1) := by decide +kernel
theorem dX5_measureFor_40 : decode cX5_measureFor 40 = .ok (.iload_n 1, 1) := by decide +kernel
theorem dX5_measureFor_41 : decode cX5_measureFor 41 = .ok (.iload 4, 2) := by decide +kernel
theorem dX5_measureFor_43 : decode cX5_measureFor 43 = .ok (.invokevirtual 141, 3) := by decide +kernel
theorem dX5_measureFor_46 : decode cX5_measureFor 46 = .ok (.iload_n 2, 1) := by decide +kernel
theorem dX5_measureFor_47 : decode cX5_measureFor 47 = .ok (.ishr, 1) := by decide +kernel
theorem dX5_measureFor_48 : decode cX5_measureFor 48 = .ok (.iconst 1, 1) := by decide +kernel
theorem dX5_measureFor_49 : decode cX5_measureFor 49 = .ok (.iand, 1) := by decide +kernel
theorem dX5_measureFor_50 : decode cX5_measureFor 50 = .ok (.iconst 1, 1) := by decide +kernel
theorem dX5_measureFor_51 : decode cX5_measureFor 51 = .ok (.if_icmp .ne 8, 3) := by decide +kernel
theorem dX5_measureFor_54 : decode cX5_measureFor 54 = .ok (.iload 4, 2) := by decide +kernel
theorem dX5_measureFor_56 : decode cX5_measureFor 56 = .ok (.goto 4, 3) := by decide +kernel
theorem dX5_measureFor_59 : decode cX5_measureFor 59 = .ok (.iconst (-1), 1) := by decide +kernel
theorem dX5_measureFor_60 : decode cX5_measureFor 60 = .ok (.istore_n 3, 1) := by decide +kernel
theorem dX5_measureFor_61 : decode cX5_measureFor 61 = .ok (.iinc 4 1, 3) := by decide +kernel
theorem dX5_measureFor_64 : decode cX5_measureFor 64 = .ok (.goto (-36), 3) := by decide +kernel
theorem dX5_measureFor_67 : decode cX5_measureFor 67 = .ok (.aload_n 0, 1) := by decide +kernel
theorem dX5_measureFor_68 : decode cX5_measureFor 68 = .ok (.iload_n 3, 1) := by decide +kernel
theorem dX5_measureFor_69 : decode cX5_measureFor 69 = .ok (.invokevirtual 191, 3) := by decide +kernel
theorem dX5_measureFor_72 : decode cX5_measureFor 72 = .ok (.ireturn, 1) := by decide +kernel
theorem dX5_kindFor_0 : decode cX5_kindFor 0 = .ok (.aload_n 0, 1) := by decide +kernel
theorem dX5_kindFor_1 : decode cX5_kindFor 1 = .ok (.iload_n 1, 1) := by decide +kernel
theorem dX5_kindFor_2 : decode cX5_kindFor 2 = .ok (.invokevirtual 131, 3) := by decide +kernel
theorem dX5_kindFor_5 : decode cX5_kindFor 5 = .ok (.ifCond .eq 10, 3) := by decide +kernel
theorem dX5_kindFor_8 : decode cX5_kindFor 8 = .ok (.iload_n 2, 1) := by decide +kernel
theorem dX5_kindFor_9 : decode cX5_kindFor 9 = .ok (.invokestatic 194, 3) := by decide +kernel
theorem dX5_kindFor_12 : decode cX5_kindFor 12 = .ok (.ifCond .ne 10, 3) := by decide +kernel
theorem dX5_kindFor_15 : decode cX5_kindFor 15 = .ok (.aload_n 0, 1) := by decide +kernel
theorem dX5_kindFor_16 : decode cX5_kindFor 16 = .ok (.ldc 60, 2) := by decide +kernel
theorem dX5_kindFor_18 : decode cX5_kindFor 18 = .ok (.invokevirtual 66, 3) := by decide +kernel
theorem dX5_kindFor_21 : decode cX5_kindFor 21 = .ok (.ireturn, 1) := by decide +kernel
theorem dX5_kindFor_22 : decode cX5_kindFor 22 = .ok (.iload_n 1, 1) := by decide +kernel
theorem dX5_kindFor_23 : decode cX5_kindFor 23 = .ok (.iconst 0, 1) := by decide +kernel
theorem dX5_kindFor_24 : decode cX5_kindFor 24 = .ok (.invokestatic 106, 3) := by decide +kernel
theorem dX5_kindFor_27 : decode cX5_kindFor 27 = .ok (.istore_n 3, 1) := by decide +kernel
theorem dX5_kindFor_28 : decode cX5_kindFor 28 = .ok (.aload_n 0, 1) := by decide +kernel
theorem dX5_kindFor_29 : decode cX5_kindFor 29 = .ok (.getfield 9, 3) := by decide +kernel
theorem dX5_kindFor_32 : decode cX5_kindFor 32 = .ok (.iload_n 3, 1) := by decide +kernel
theorem dX5_kindFor_33 : decode cX5_kindFor 33 = .ok (.iaload, 1) := by decide +kernel
theorem dX5_kindFor_34 : decode cX5_kindFor 34 = .ok (.istore 4, 2) := by decide +kernel
theorem dX5_kindFor_36 : decode cX5_kindFor 36 = .ok (.iconst 0, 1) := by decide +kernel
theorem dX5_kindFor_37 : decode cX5_kindFor 37 = .ok (.istore 5, 2) := by decide +kernel
theorem dX5_kindFor_39 : decode cX5_kindFor 39 = .ok (.sipush 10000, 3) := by decide +kernel
theorem dX5_kindFor_42 : decode cX5_kindFor 42 = .ok (.istore 6, 2) := by decide +kernel
theorem dX5_kindFor_44 : decode cX5_kindFor 44 = .ok (.iconst 0, 1) := by decide +kernel
theorem dX5_kindFor_45 : decode cX5_kindFor 45 = .ok (.istore 7, 2) := by decide +kernel
theorem dX5_kindFor_47 : decode cX5_kindFor 47 = .ok (.iload 7, 2) := by decide +kernel
theorem dX5_kindFor_49 : decode cX5_kindFor 49 = .ok (.bipush 6, 2) := by decide +kernel
theorem dX5_kindFor_51 : decode cX5_kindFor 51 = .ok (.if_icmp .gt 40, 3) := by decide +kernel
theorem dX5_kindFor_54 : decode cX5_kindFor 54 = .ok (.aload_n 0, 1) := by decide +kernel
theorem dX5_kindFor_55 : decode cX5_kindFor 55 = .ok (.getfield 9, 3) := by decide +kernel
theorem dX5_kindFor_58 : decode cX5_kindFor 58 = .ok (.iload_n 3, 1) := by decide +kernel
theorem dX5_kindFor_59 : decode cX5_kindFor 59 = .ok (.iload 7, 2) := by decide +kernel
theorem dX5_kindFor_61 : decode cX5_kindFor 61 = .ok (.iastore, 1) := by decide +kernel
theorem dX5_kindFor_62 : decode cX5_kindFor 62 = .ok (.aload_n 0, 1) := by decide +kernel
theorem dX5_kindFor_63 : decode cX5_kindFor 63 = .ok (.iconst 4, 1) := by decide +kernel
theorem dX5_kindFor_64 : decode cX5_kindFor 64 = .ok (.iload_n 2, 1) := by decide +kernel
theorem dX5_kindFor_65 : decode cX5_kindFor 65 = .ok (.invokevirtual 184, 3) := by decide +kernel
theorem dX5_kindFor_68 : decode cX5_kindFor 68 = .ok (.istore 8, 2) := by decide +kernel
theorem dX5_kindFor_70 : decode cX5_kindFor 70 = .ok (.iload 8, 2) := by decide +kernel
theorem dX5_kindFor_72 : decode cX5_kindFor 72 = .ok (.iload 6, 2) := by decide +kernel
theorem dX5_kindFor_74 : decode cX5_kindFor 74 = .ok (.if_icmp .ge 11, 3) := by decide +kernel
theorem dX5_kindFor_77 : decode cX5_kindFor 77 = .ok (.iload 7, 2) := by decide +kernel
theorem dX5_kindFor_79 : decode cX5_kindFor 79 = .ok (.istore 5, 2) := by decide +kernel
theorem dX5_kindFor_81 : decode cX5_kindFor 81 = .ok (.iload 8, 2) := by decide +kernel
theorem dX5_kindFor_83 : decode cX5_kindFor 83 = .ok (.istore 6, 2) := by decide +kernel
theorem dX5_kindFor_85 : decode cX5_kindFor 85 = .ok (.iinc 7 1, 3) := by decide +kernel
theorem dX5_kindFor_88 : decode cX5_kindFor 88 = .ok (.goto (-41), 3) := by decide +kernel
theorem dX5_kindFor_91 : decode cX5_kindFor 91 = .ok (.aload_n 0, 1) := by decide +kernel
theorem dX5_kindFor_92 : decode cX5_kindFor 92 = .ok (.getfield 9, 3) := by decide +kernel
theorem dX5_kindFor_95 : decode cX5_kindFor 95 = .ok (.iload_n 3, 1) := by decide +kernel
theorem dX5_kindFor_96 : decode cX5_kindFor 96 = .ok (.iload 4, 2) := by decide +kernel
theorem dX5_kindFor_98 : decode cX5_kindFor 98 = .ok (.iastore, 1) := by decide +kernel
theorem dX5_kindFor_99 : decode cX5_kindFor 99 = .ok (.iload 5, 2) := by decide +kernel
theorem dX5_kindFor_101 : decode cX5_kindFor 101 = .ok (.ireturn, 1) := by decide +kernel
theorem dX5_sizeFor_0 : decode cX5_sizeFor 0 = .ok (.aload_n 0, 1) := by decide +kernel
theorem dX5_sizeFor_1 : decode cX5_sizeFor 1 = .ok (.iload_n 1, 1) := by decide +kernel
theorem dX5_sizeFor_2 : decode cX5_sizeFor 2 = .ok (.invokevirtual 131, 3) := by decide +kernel
theorem dX5_sizeFor_5 : decode cX5_sizeFor 5 = .ok (.ifCond .eq 10, 3) := by decide +kernel
theorem dX5_sizeFor_8 : decode cX5_sizeFor 8 = .ok (.iload_n 2, 1) := by decide +kernel
theorem dX5_sizeFor_9 : decode cX5_sizeFor 9 = .ok (.invokestatic 194, 3) := by decide +kernel
theorem dX5_sizeFor_12 : decode cX5_sizeFor 12 = .ok (.ifCond .ne 10, 3) := by decide +kernel
theorem dX5_sizeFor_15 : decode cX5_sizeFor 15 = .ok (.aload_n 0, 1) := by decide +kernel
theorem dX5_sizeFor_16 : decode cX5_sizeFor 16 = .ok (.ldc 60, 2) := by decide +kernel
theorem dX5_sizeFor_18 : decode cX5_sizeFor 18 = .ok (.invokevirtual 66, 3) := by decide +kernel
theorem dX5_sizeFor_21 : decode cX5_sizeFor 21 = .ok (.ireturn, 1) := by decide +kernel
theorem dX5_sizeFor_22 : decode cX5_sizeFor 22 = .ok (.iload_n 1, 1) := by decide +kernel
theorem dX5_sizeFor_23 : decode cX5_sizeFor 23 = .ok (.iconst 2, 1) := by decide +kernel
theorem dX5_sizeFor_24 : decode cX5_sizeFor 24 = .ok (.invokestatic 106, 3) := by decide +kernel
theorem dX5_sizeFor_27 : decode cX5_sizeFor 27 = .ok (.istore_n 3, 1) := by decide +kernel
theorem dX5_sizeFor_28 : decode cX5_sizeFor 28 = .ok (.aload_n 0, 1) := by decide +kernel
theorem dX5_sizeFor_29 : decode cX5_sizeFor 29 = .ok (.getfield 9, 3) := by decide +kernel
theorem dX5_sizeFor_32 : decode cX5_sizeFor 32 = .ok (.iload_n 3, 1) := by decide +kernel
theorem dX5_sizeFor_33 : decode cX5_sizeFor 33 = .ok (.iaload, 1) := by decide +kernel
theorem dX5_sizeFor_34 : decode cX5_sizeFor 34 = .ok (.istore 4, 2) := by decide +kernel
theorem dX5_sizeFor_36 : decode cX5_sizeFor 36 = .ok (.iconst (-1), 1) := by decide +kernel
theorem dX5_sizeFor_37 : decode cX5_sizeFor 37 = .ok (.istore 5, 2) := by decide +kernel
theorem dX5_sizeFor_39 : decode cX5_sizeFor 39 = .ok (.iconst 1, 1) := by decide +kernel
theorem dX5_sizeFor_40 : decode cX5_sizeFor 40 = .ok (.istore 6, 2) := by decide +kernel
theorem dX5_sizeFor_42 : decode cX5_sizeFor 42 = .ok (.iload 6, 2) := by decide +kernel
theorem dX5_sizeFor_44 : decode cX5_sizeFor 44 = .ok (.bipush 40, 2) := by decide +kernel
theorem dX5_sizeFor_46 : decode cX5_sizeFor 46 = .ok (.if_icmp .gt 45, 3) := by decide +kernel
theorem dX5_sizeFor_49 : decode cX5_sizeFor 49 = .ok (.aload_n 0, 1) := by decide +kernel
theorem dX5_sizeFor_50 : decode cX5_sizeFor 50 = .ok (.getfield 9, 3) := by decide +kernel
theorem dX5_sizeFor_53 : decode cX5_sizeFor 53 = .ok (.iload_n 3, 1) := by decide +kernel
theorem dX5_sizeFor_54 : decode cX5_sizeFor 54 = .ok (.iload 6, 2) := by decide +kernel
theorem dX5_sizeFor_56 : decode cX5_sizeFor 56 = .ok (.iastore, 1) := by decide +kernel
theorem dX5_sizeFor_57 : decode cX5_sizeFor 57 = .ok (.aload_n 0, 1) := by decide +kernel
theorem dX5_sizeFor_58 : decode cX5_sizeFor 58 = .ok (.iload_n 1, 1) := by decide +kernel
theorem dX5_sizeFor_59 : decode cX5_sizeFor 59 = .ok (.iconst 1, 1) := by decide +kernel
theorem dX5_sizeFor_60 : decode cX5_sizeFor 60 = .ok (.invokestatic 106, 3) := by decide +kernel
theorem dX5_sizeFor_63 : decode cX5_sizeFor 63 = .ok (.iload_n 2, 1) := by decide +kernel
theorem dX5_sizeFor_64 : decode cX5_sizeFor 64 = .ok (.invokevirtual 184, 3) := by decide +kernel
theorem dX5_sizeFor_67 : decode cX5_sizeFor 67 = .ok (.aload_n 0, 1) := by decide +kernel
theorem dX5_sizeFor_68 : decode cX5_sizeFor 68 = .ok (.iload_n 1, 1) := by decide +kernel
theorem dX5_sizeFor_69 : decode cX5_sizeFor 69 = .ok (.iconst 3, 1) := by decide +kernel
theorem dX5_sizeFor_70 : decode cX5_sizeFor 70 = .ok (.invokevirtual 116, 3) := by decide +kernel
theorem dX5_sizeFor_73 : decode cX5_sizeFor 73 = .ok (.if_icmp .ne 8, 3) := by decide +kernel
theorem dX5_sizeFor_76 : decode cX5_sizeFor 76 = .ok (.iload 6, 2) := by decide +kernel
theorem dX5_sizeFor_78 : decode cX5_sizeFor 78 = .ok (.goto 5, 3) := by decide +kernel
theorem dX5_sizeFor_81 : decode cX5_sizeFor 81 = .ok (.iload 5, 2) := by decide +kernel
theorem dX5_sizeFor_83 : decode cX5_sizeFor 83 = .ok (.istore 5, 2) := by decide +kernel
theorem dX5_sizeFor_85 : decode cX5_sizeFor 85 = .ok (.iinc 6 1, 3) := by decide +kernel
theorem dX5_sizeFor_88 : decode cX5_sizeFor 88 = .ok (.goto (-46), 3) := by decide +kernel
theorem dX5_sizeFor_91 : decode cX5_sizeFor 91 = .ok (.aload_n 0, 1) := by decide +kernel
theorem dX5_sizeFor_92 : decode cX5_sizeFor 92 = .ok (.getfield 9, 3) := by decide +kernel
theorem dX5_sizeFor_95 : decode cX5_sizeFor 95 = .ok (.iload_n 3, 1) := by decide +kernel
theorem dX5_sizeFor_96 : decode cX5_sizeFor 96 = .ok (.iload 4, 2) := by decide +kernel
theorem dX5_sizeFor_98 : decode cX5_sizeFor 98 = .ok (.iastore, 1) := by decide +kernel
theorem dX5_sizeFor_99 : decode cX5_sizeFor 99 = .ok (.aload_n 0, 1) := by decide +kernel
theorem dX5_sizeFor_100 : decode cX5_sizeFor 100 = .ok (.iload 5, 2) := by decide +kernel
theorem dX5_sizeFor_102 : decode cX5_sizeFor 102 = .ok (.invokevirtual 191, 3) := by decide +kernel
theorem dX5_sizeFor_105 : decode cX5_sizeFor 105 = .ok (.ireturn, 1) := by decide +kernel
theorem dX5_holds_0 : decode cX5_holds 0 = .ok (.aload_n 0, 1) := by decide +kernel
theorem dX5_holds_1 : decode cX5_holds 1 = .ok (.getfield 9, 3) := by decide +kernel
theorem dX5_holds_4 : decode cX5_holds 4 = .ok (.aload_n 0, 1) := by decide +kernel
theorem dX5_holds_5 : decode cX5_holds 5 = .ok (.getfield 16, 3) := by decide +kernel
theorem dX5_holds_8 : decode cX5_holds 8 = .ok (.invokestatic 61, 3) := by decide +kernel
theorem dX5_holds_11 : decode cX5_holds 11 = .ok (.iconst 0, 1) := by decide +kernel
theorem dX5_holds_12 : decode cX5_holds 12 = .ok (.istore_n 3, 1) := by decide +kernel
theorem dX5_holds_13 : decode cX5_holds 13 = .ok (.iload_n 3, 1) := by decide +kernel
theorem dX5_holds_14 : decode cX5_holds 14 = .ok (.aload_n 0, 1) := by decide +kernel
theorem dX5_holds_15 : decode cX5_holds 15 = .ok (.getfield 9, 3) := by decide +kernel
theorem dX5_holds_18 : decode cX5_holds 18 = .ok (.iconst 1, 1) := by decide +kernel
theorem dX5_holds_19 : decode cX5_holds 19 = .ok (.iaload, 1) := by decide +kernel
theorem dX5_holds_20 : decode cX5_holds 20 = .ok (.if_icmp .ge 29, 3) := by decide +kernel
theorem dX5_holds_23 : decode cX5_holds 23 = .ok (.iload_n 1, 1) := by decide +kernel
theorem dX5_holds_24 : decode cX5_holds 24 = .ok (.iload_n 3, 1) := by decide +kernel
theorem dX5_holds_25 : decode cX5_holds 25 = .ok (.ishr, 1) := by decide +kernel
theorem dX5_holds_26 : decode cX5_holds 26 = .ok (.iconst 1, 1) := by decide +kernel
theorem dX5_holds_27 : decode cX5_holds 27 = .ok (.iand, 1) := by decide +kernel
theorem dX5_holds_28 : decode cX5_holds 28 = .ok (.iconst 1, 1) := by decide +kernel
theorem dX5_holds_29 : decode cX5_holds 29 = .ok (.if_icmp .ne 14, 3) := by decide +kernel
theorem dX5_holds_32 : decode cX5_holds 32 = .ok (.aload_n 0, 1) := by decide +kernel
theorem dX5_holds_33 : decode cX5_holds 33 = .ok (.getfield 9, 3) := by decide +kernel
theorem dX5_holds_36 : decode cX5_holds 36 = .ok (.iload_n 3, 1) := by decide +kernel
theorem dX5_holds_37 : decode cX5_holds 37 = .ok (.iconst 5, 1) := by decide +kernel
theorem dX5_holds_38 : decode cX5_holds 38 = .ok (.invokestatic 106, 3) := by decide +kernel
theorem dX5_holds_41 : decode cX5_holds 41 = .ok (.iconst 1, 1) := by decide +kernel
theorem dX5_holds_42 : decode cX5_holds 42 = .ok (.iastore, 1) := by decide +kernel
theorem dX5_holds_43 : decode cX5_holds 43 = .ok (.iinc 3 1, 3) := by decide +kernel
theorem dX5_holds_46 : decode cX5_holds 46 = .ok (.goto (-33), 3) := by decide +kernel
theorem dX5_holds_49 : decode cX5_holds 49 = .ok (.aload_n 0, 1) := by decide +kernel
theorem dX5_holds_50 : decode cX5_holds 50 = .ok (.iload_n 2, 1) := by decide +kernel
theorem dX5_holds_51 : decode cX5_holds 51 = .ok (.invokevirtual 166, 3) := by decide +kernel
theorem dX5_holds_54 : decode cX5_holds 54 = .ok (.aload_n 0, 1) := by decide +kernel
theorem dX5_holds_55 : decode cX5_holds 55 = .ok (.getfield 9, 3) := by decide +kernel
theorem dX5_holds_58 : decode cX5_holds 58 = .ok (.iconst 5, 1) := by decide +kernel
theorem dX5_holds_59 : decode cX5_holds 59 = .ok (.iaload, 1) := by decide +kernel
theorem dX5_holds_60 : decode cX5_holds 60 = .ok (.ifCond .ne 7, 3) := by decide +kernel
theorem dX5_holds_63 : decode cX5_holds 63 = .ok (.iconst 1, 1) := by decide +kernel
theorem dX5_holds_64 : decode cX5_holds 64 = .ok (.goto 4, 3) := by decide +kernel
theorem dX5_holds_67 : decode cX5_holds 67 = .ok (.iconst 0, 1) := by decide +kernel
theorem dX5_holds_68 : decode cX5_holds 68 = .ok (.istore_n 3, 1) := by decide +kernel
theorem dX5_holds_69 : decode cX5_holds 69 = .ok (.aload_n 0, 1) := by decide +kernel
theorem dX5_holds_70 : decode cX5_holds 70 = .ok (.getfield 16, 3) := by decide +kernel
theorem dX5_holds_73 : decode cX5_holds 73 = .ok (.aload_n 0, 1) := by decide +kernel
theorem dX5_holds_74 : decode cX5_holds 74 = .ok (.getfield 9, 3) := by decide +kernel
theorem dX5_holds_77 : decode cX5_holds 77 = .ok (.invokestatic 61, 3) := by decide +kernel
theorem dX5_holds_80 : decode cX5_holds 80 = .ok (.iload_n 3, 1) := by decide +kernel
theorem dX5_holds_81 : decode cX5_holds 81 = .ok (.ireturn, 1) := by decide +kernel
theorem dX5_send_0 : decode cX5_send 0 = .ok (.iload_n 1, 1) := by decide +kernel
theorem dX5_send_1 : decode cX5_send 1 = .ok (.iconst 0, 1) := by decide +kernel
theorem dX5_send_2 : decode cX5_send 2 = .ok (.bipush 20, 2) := by decide +kernel
theorem dX5_send_4 : decode cX5_send 4 = .ok (.invokestatic 70, 3) := by decide +kernel
theorem dX5_send_7 : decode cX5_send 7 = .ok (.ifCond .ne 10, 3) := by decide +kernel
theorem dX5_send_10 : decode cX5_send 10 = .ok (.aload_n 0, 1) := by decide +kernel
theorem dX5_send_11 : decode cX5_send 11 = .ok (.ldc 60, 2) := by decide +kernel
theorem dX5_send_13 : decode cX5_send 13 = .ok (.invokevirtual 66, 3) := by decide +kernel
theorem dX5_send_16 : decode cX5_send 16 = .ok (.ireturn, 1) := by decide +kernel
theorem dX5_send_17 : decode cX5_send 17 = .ok (.iconst (-1), 1) := by decide +kernel
theorem dX5_send_18 : decode cX5_send 18 = .ok (.istore_n 2, 1) := by decide +kernel
theorem dX5_send_19 : decode cX5_send 19 = .ok (.iconst 1, 1) := by decide +kernel
theorem dX5_send_20 : decode cX5_send 20 = .ok (.aload_n 0, 1) := by decide +kernel
theorem dX5_send_21 : decode cX5_send 21 = .ok (.getfield 9, 3) := by decide +kernel
theorem dX5_send_24 : decode cX5_send 24 = .ok (.iconst 1, 1) := by decide +kernel
theorem dX5_send_25 : decode cX5_send 25 = .ok (.iaload, 1) := by decide +kernel
theorem dX5_send_26 : decode cX5_send 26 = .ok (.ishl, 1) := by decide +kernel
theorem dX5_send_27 : decode cX5_send 27 = .ok (.iconst 1, 1) := by decide +kernel
theorem dX5_send_28 : decode cX5_send 28 = .ok (.isub, 1) := by decide +kernel
theorem dX5_send_29 : decode cX5_send 29 = .ok (.istore_n 3, 1) := by decide +kernel
theorem dX5_send_30 : decode cX5_send 30 = .ok (.iload_n 3, 1) := by decide +kernel
theorem dX5_send_31 : decode cX5_send 31 = .ok (.ifCond .lt 39, 3) := by decide +kernel
theorem dX5_send_34 : decode cX5_send 34 = .ok (.iload_n 2, 1) := by decide +kernel
theorem dX5_send_35 : decode cX5_send 35 = .ok (.ifCond .lt 14, 3) := by decide +kernel
theorem dX5_send_38 : decode cX5_send 38 = .ok (.iload_n 3, 1) := by decide +kernel
theorem dX5_send_39 : decode cX5_send 39 = .ok (.invokestatic 197, 3) := by decide +kernel
theorem dX5_send_42 : decode cX5_send 42 = .ok (.iload_n 2, 1) := by decide +kernel
theorem dX5_send_43 : decode cX5_send 43 = .ok (.invokestatic 197, 3) := by decide +kernel
theorem dX5_send_46 : decode cX5_send 46 = .ok (.if_icmp .gt 16, 3) := by decide +kernel
theorem dX5_send_49 : decode cX5_send 49 = .ok (.aload_n 0, 1) := by decide +kernel
theorem dX5_send_50 : decode cX5_send 50 = .ok (.iload_n 3, 1) := by decide +kernel
theorem dX5_send_51 : decode cX5_send 51 = .ok (.iload_n 1, 1) := by decide +kernel
theorem dX5_send_52 : decode cX5_send 52 = .ok (.invokevirtual 200, 3) := by decide +kernel
theorem dX5_send_55 : decode cX5_send 55 = .ok (.ifCond .eq 7, 3) := by decide +kernel
theorem dX5_send_58 : decode cX5_send 58 = .ok (.iload_n 3, 1) := by decide +kernel
theorem dX5_send_59 : decode cX5_send 59 = .ok (.goto 4, 3) := by decide +kernel
theorem dX5_send_62 : decode cX5_send 62 = .ok (.iload_n 2, 1) := by decide +kernel
theorem dX5_send_63 : decode cX5_send 63 = .ok (.istore_n 2, 1) := by decide +kernel
theorem dX5_send_64 : decode cX5_send 64 = .ok (.iinc 3 (-1), 3) := by decide +kernel
theorem dX5_send_67 : decode cX5_send 67 = .ok (.goto (-37), 3) := by decide +kernel
theorem dX5_send_70 : decode cX5_send 70 = .ok (.aload_n 0, 1) := by decide +kernel
theorem dX5_send_71 : decode cX5_send 71 = .ok (.iload_n 2, 1) := by decide +kernel
theorem dX5_send_72 : decode cX5_send 72 = .ok (.invokevirtual 191, 3) := by decide +kernel
theorem dX5_send_75 : decode cX5_send 75 = .ok (.ireturn, 1) := by decide +kernel
theorem dX5_lacks_0 : decode cX5_lacks 0 = .ok (.iload_n 1, 1) := by decide +kernel
theorem dX5_lacks_1 : decode cX5_lacks 1 = .ok (.invokestatic 203, 3) := by decide +kernel
theorem dX5_lacks_4 : decode cX5_lacks 4 = .ok (.ifCond .ne 8, 3) := by decide +kernel
theorem dX5_lacks_7 : decode cX5_lacks 7 = .ok (.ldc 60, 2) := by decide +kernel
theorem dX5_lacks_9 : decode cX5_lacks 9 = .ok (.goto 27, 3) := by decide +kernel
theorem dX5_lacks_12 : decode cX5_lacks 12 = .ok (.aload_n 0, 1) := by decide +kernel
theorem dX5_lacks_13 : decode cX5_lacks 13 = .ok (.getfield 48, 3) := by decide +kernel
theorem dX5_lacks_16 : decode cX5_lacks 16 = .ok (.iload_n 1, 1) := by decide +kernel
theorem dX5_lacks_17 : decode cX5_lacks 17 = .ok (.iaload, 1) := by decide +kernel
theorem dX5_lacks_18 : decode cX5_lacks 18 = .ok (.ifCond .ne 8, 3) := by decide +kernel
theorem dX5_lacks_21 : decode cX5_lacks 21 = .ok (.ldc 206, 2) := by decide +kernel
theorem dX5_lacks_23 : decode cX5_lacks 23 = .ok (.goto 13, 3) := by decide +kernel
theorem dX5_lacks_26 : decode cX5_lacks 26 = .ok (.iload_n 2, 1) := by decide +kernel
theorem dX5_lacks_27 : decode cX5_lacks 27 = .ok (.ifCond .eq 7, 3) := by decide +kernel
theorem dX5_lacks_30 : decode cX5_lacks 30 = .ok (.iconst 0, 1) := by decide +kernel
theorem dX5_lacks_31 : decode cX5_lacks 31 = .ok (.goto 5, 3) := by decide +kernel
theorem dX5_lacks_34 : decode cX5_lacks 34 = .ok (.ldc 60, 2) := by decide +kernel
theorem dX5_lacks_36 : decode cX5_lacks 36 = .ok (.ireturn, 1) := by decide +kernel
theorem dX5_isSo_0 : decode cX5_isSo 0 = .ok (.aload_n 0, 1) := by decide +kernel
theorem dX5_isSo_1 : decode cX5_isSo 1 = .ok (.getfield 9, 3) := by decide +kernel
theorem dX5_isSo_4 : decode cX5_isSo 4 = .ok (.aload_n 0, 1) := by decide +kernel
theorem dX5_isSo_5 : decode cX5_isSo 5 = .ok (.getfield 16, 3) := by decide +kernel
theorem dX5_isSo_8 : decode cX5_isSo 8 = .ok (.invokestatic 61, 3) := by decide +kernel
theorem dX5_isSo_11 : decode cX5_isSo 11 = .ok (.iconst 1, 1) := by decide +kernel
theorem dX5_isSo_12 : decode cX5_isSo 12 = .ok (.istore_n 3, 1) := by decide +kernel
theorem dX5_isSo_13 : decode cX5_isSo 13 = .ok (.iconst 0, 1) := by decide +kernel
theorem dX5_isSo_14 : decode cX5_isSo 14 = .ok (.istore 4, 2) := by decide +kernel
theorem dX5_isSo_16 : decode cX5_isSo 16 = .ok (.iload 4, 2) := by decide +kernel
theorem dX5_isSo_18 : decode cX5_isSo 18 = .ok (.aload_n 0, 1) := by decide +kernel
theorem dX5_isSo_19 : decode cX5_isSo 19 = .ok (.getfield 51, 3) := by decide +kernel
theorem dX5_isSo_22 : decode cX5_isSo 22 = .ok (.iload_n 1, 1) := by decide +kernel
theorem dX5_isSo_23 : decode cX5_isSo 23 = .ok (.iaload, 1) := by decide +kernel
theorem dX5_isSo_24 : decode cX5_isSo 24 = .ok (.if_icmp .ge 54, 3) := by decide +kernel
theorem dX5_isSo_27 : decode cX5_isSo 27 = .ok (.iload_n 3, 1) := by decide +kernel
theorem dX5_isSo_28 : decode cX5_isSo 28 = .ok (.ifCond .eq 50, 3) := by decide +kernel
theorem dX5_isSo_31 : decode cX5_isSo 31 = .ok (.aload_n 0, 1) := by decide +kernel
theorem dX5_isSo_32 : decode cX5_isSo 32 = .ok (.getfield 54, 3) := by decide +kernel
theorem dX5_isSo_35 : decode cX5_isSo 35 = .ok (.bipush 40, 2) := by decide +kernel
theorem dX5_isSo_37 : decode cX5_isSo 37 = .ok (.iload_n 1, 1) := by decide +kernel
theorem dX5_isSo_38 : decode cX5_isSo 38 = .ok (.imul, 1) := by decide +kernel
theorem dX5_isSo_39 : decode cX5_isSo 39 = .ok (.iload 4, 2) := by decide +kernel
theorem dX5_isSo_41 : decode cX5_isSo 41 = .ok (.iadd, 1) := by decide +kernel
theorem dX5_isSo_42 : decode cX5_isSo 42 = .ok (.iaload, 1) := by decide +kernel
theorem dX5_isSo_43 : decode cX5_isSo 43 = .ok (.istore 5, 2) := by decide +kernel
theorem dX5_isSo_45 : decode cX5_isSo 45 = .ok (.aload_n 0, 1) := by decide +kernel
theorem dX5_isSo_46 : decode cX5_isSo 46 = .ok (.invokevirtual 162, 3) := by decide +kernel
theorem dX5_isSo_49 : decode cX5_isSo 49 = .ok (.iload 5, 2) := by decide +kernel
theorem dX5_isSo_51 : decode cX5_isSo 51 = .ok (.iconst (-1), 1) := by decide +kernel
theorem dX5_isSo_52 : decode cX5_isSo 52 = .ok (.if_icmp .eq 14, 3) := by decide +kernel
theorem dX5_isSo_55 : decode cX5_isSo 55 = .ok (.iload 5, 2) := by decide +kernel
theorem dX5_isSo_57 : decode cX5_isSo 57 = .ok (.aload_n 0, 1) := by decide +kernel
theorem dX5_isSo_58 : decode cX5_isSo 58 = .ok (.iload_n 2, 1) := by decide +kernel
theorem dX5_isSo_59 : decode cX5_isSo 59 = .ok (.iconst 1, 1) := by decide +kernel
theorem dX5_isSo_60 : decode cX5_isSo 60 = .ok (.invokevirtual 116, 3) := by decide +kernel
theorem dX5_isSo_63 : decode cX5_isSo 63 = .ok (.if_icmp .ne 7, 3) := by decide +kernel
theorem dX5_isSo_66 : decode cX5_isSo 66 = .ok (.iconst 1, 1) := by decide +kernel
theorem dX5_isSo_67 : decode cX5_isSo 67 = .ok (.goto 4, 3) := by decide +kernel
theorem dX5_isSo_70 : decode cX5_isSo 70 = .ok (.iconst 0, 1) := by decide +kernel
theorem dX5_isSo_71 : decode cX5_isSo 71 = .ok (.istore_n 3, 1) := by decide +kernel
theorem dX5_isSo_72 : decode cX5_isSo 72 = .ok (.iinc 4 1, 3) := by decide +kernel
theorem dX5_isSo_75 : decode cX5_isSo 75 = .ok (.goto (-59), 3) := by decide +kernel
theorem dX5_isSo_78 : decode cX5_isSo 78 = .ok (.aload_n 0, 1) := by decide +kernel
theorem dX5_isSo_79 : decode cX5_isSo 79 = .ok (.getfield 16, 3) := by decide +kernel
theorem dX5_isSo_82 : decode cX5_isSo 82 = .ok (.aload_n 0, 1) := by decide +kernel
theorem dX5_isSo_83 : decode cX5_isSo 83 = .ok (.getfield 9, 3) := by decide +kernel
theorem dX5_isSo_86 : decode cX5_isSo 86 = .ok (.invokestatic 61, 3) := by decide +kernel
theorem dX5_isSo_89 : decode cX5_isSo 89 = .ok (.iload_n 3, 1) := by decide +kernel
theorem dX5_isSo_90 : decode cX5_isSo 90 = .ok (.ireturn, 1) := by decide +kernel
theorem dX5_fits_0 : decode cX5_fits 0 = .ok (.aload_n 0, 1) := by decide +kernel
theorem dX5_fits_1 : decode cX5_fits 1 = .ok (.iload_n 1, 1) := by decide +kernel
theorem dX5_fits_2 : decode cX5_fits 2 = .ok (.aload_n 0, 1) := by decide +kernel
theorem dX5_fits_3 : decode cX5_fits 3 = .ok (.iload_n 2, 1) := by decide +kernel
theorem dX5_fits_4 : decode cX5_fits 4 = .ok (.invokevirtual 131, 3) := by decide +kernel
theorem dX5_fits_7 : decode cX5_fits 7 = .ok (.invokevirtual 207, 3) := by decide +kernel
theorem dX5_fits_10 : decode cX5_fits 10 = .ok (.istore_n 3, 1) := by decide +kernel
theorem dX5_fits_11 : decode cX5_fits 11 = .ok (.iload_n 3, 1) := by decide +kernel
theorem dX5_fits_12 : decode cX5_fits 12 = .ok (.ifCond .eq 9, 3) := by decide +kernel
theorem dX5_fits_15 : decode cX5_fits 15 = .ok (.aload_n 0, 1) := by decide +kernel
theorem dX5_fits_16 : decode cX5_fits 16 = .ok (.iload_n 3, 1) := by decide +kernel
theorem dX5_fits_17 : decode cX5_fits 17 = .ok (.invokevirtual 66, 3) := by decide +kernel
theorem dX5_fits_20 : decode cX5_fits 20 = .ok (.ireturn, 1) := by decide +kernel
theorem dX5_fits_21 : decode cX5_fits 21 = .ok (.aload_n 0, 1) := by decide +kernel
theorem dX5_fits_22 : decode cX5_fits 22 = .ok (.invokevirtual 94, 3) := by decide +kernel
theorem dX5_fits_25 : decode cX5_fits 25 = .ok (.istore 4, 2) := by decide +kernel
theorem dX5_fits_27 : decode cX5_fits 27 = .ok (.aload_n 0, 1) := by decide +kernel
theorem dX5_fits_28 : decode cX5_fits 28 = .ok (.getfield 9, 3) := by decide +kernel
theorem dX5_fits_31 : decode cX5_fits 31 = .ok (.iload 4, 2) := by decide +kernel
theorem dX5_fits_33 : decode cX5_fits 33 = .ok (.iaload, 1) := by decide +kernel
theorem dX5_fits_34 : decode cX5_fits 34 = .ok (.istore 5, 2) := by decide +kernel
theorem dX5_fits_36 : decode cX5_fits 36 = .ok (.iconst 0, 1) := by decide +kernel
theorem dX5_fits_37 : decode cX5_fits 37 = .ok (.istore 6, 2) := by decide +kernel
theorem dX5_fits_39 : decode cX5_fits 39 = .ok (.bipush 16, 2) := by decide +kernel
theorem dX5_fits_41 : decode cX5_fits 41 = .ok (.istore 7, 2) := by decide +kernel
theorem dX5_fits_43 : decode cX5_fits 43 = .ok (.iload 7, 2) := by decide +kernel
theorem dX5_fits_45 : decode cX5_fits 45 = .ok (.bipush 36, 2) := by decide +kernel
theorem dX5_fits_47 : decode cX5_fits 47 = .ok (.if_icmp .gt 37, 3) := by decide +kernel
theorem dX5_fits_50 : decode cX5_fits 50 = .ok (.aload_n 0, 1) := by decide +kernel
theorem dX5_fits_51 : decode cX5_fits 51 = .ok (.getfield 9, 3) := by decide +kernel
theorem dX5_fits_54 : decode cX5_fits 54 = .ok (.iload 4, 2) := by decide +kernel
theorem dX5_fits_56 : decode cX5_fits 56 = .ok (.iload 7, 2) := by decide +kernel
theorem dX5_fits_58 : decode cX5_fits 58 = .ok (.iastore, 1) := by decide +kernel
theorem dX5_fits_59 : decode cX5_fits 59 = .ok (.iload 6, 2) := by decide +kernel
theorem dX5_fits_61 : decode cX5_fits 61 = .ok (.aload_n 0, 1) := by decide +kernel
theorem dX5_fits_62 : decode cX5_fits 62 = .ok (.iload_n 1, 1) := by decide +kernel
theorem dX5_fits_63 : decode cX5_fits 63 = .ok (.iload_n 2, 1) := by decide +kernel
theorem dX5_fits_64 : decode cX5_fits 64 = .ok (.invokevirtual 211, 3) := by decide +kernel
theorem dX5_fits_67 : decode cX5_fits 67 = .ok (.ifCond .eq 7, 3) := by decide +kernel
theorem dX5_fits_70 : decode cX5_fits 70 = .ok (.iconst 1, 1) := by decide +kernel
theorem dX5_fits_71 : decode cX5_fits 71 = .ok (.goto 4, 3) := by decide +kernel
theorem dX5_fits_74 : decode cX5_fits 74 = .ok (.iconst 0, 1) := by decide +kernel
theorem dX5_fits_75 : decode cX5_fits 75 = .ok (.iadd, 1) := by decide +kernel
theorem dX5_fits_76 : decode cX5_fits 76 = .ok (.istore 6, 2) := by decide +kernel
theorem dX5_fits_78 : decode cX5_fits 78 = .ok (.iinc 7 1, 3) := by decide +kernel
theorem dX5_fits_81 : decode cX5_fits 81 = .ok (.goto (-38), 3) := by decide +kernel
theorem dX5_fits_84 : decode cX5_fits 84 = .ok (.aload_n 0, 1) := by decide +kernel
theorem dX5_fits_85 : decode cX5_fits 85 = .ok (.getfield 9, 3) := by decide +kernel
theorem dX5_fits_88 : decode cX5_fits 88 = .ok (.iload 4, 2) := by decide +kernel
theorem dX5_fits_90 : decode cX5_fits 90 = .ok (.iload 5, 2) := by decide +kernel
theorem dX5_fits_92 : decode cX5_fits 92 = .ok (.iastore, 1) := by decide +kernel
theorem dX5_fits_93 : decode cX5_fits 93 = .ok (.iload 6, 2) := by decide +kernel
theorem dX5_fits_95 : decode cX5_fits 95 = .ok (.ireturn, 1) := by decide +kernel
theorem dX5_kinds_0 : decode cX5_kinds 0 = .ok (.aload_n 0, 1) := by decide +kernel
theorem dX5_kinds_1 : decode cX5_kinds 1 = .ok (.iload_n 1, 1) := by decide +kernel
theorem dX5_kinds_2 : decode cX5_kinds 2 = .ok (.aload_n 0, 1) := by decide +kernel
theorem dX5_kinds_3 : decode cX5_kinds 3 = .ok (.iload_n 2, 1) := by decide +kernel
theorem dX5_kinds_4 : decode cX5_kinds 4 = .ok (.invokevirtual 131, 3) := by decide +kernel
theorem dX5_kinds_7 : decode cX5_kinds 7 = .ok (.invokevirtual 207, 3) := by decide +kernel
theorem dX5_kinds_10 : decode cX5_kinds 10 = .ok (.istore_n 3, 1) := by decide +kernel
theorem dX5_kinds_11 : decode cX5_kinds 11 = .ok (.iload_n 3, 1) := by decide +kernel
theorem dX5_kinds_12 : decode cX5_kinds 12 = .ok (.ifCond .eq 9, 3) := by decide +kernel
theorem dX5_kinds_15 : decode cX5_kinds 15 = .ok (.aload_n 0, 1) := by decide +kernel
theorem dX5_kinds_16 : decode cX5_kinds 16 = .ok (.iload_n 3, 1) := by decide +kernel
theorem dX5_kinds_17 : decode cX5_kinds 17 = .ok (.invokevirtual 66, 3) := by decide +kernel
theorem dX5_kinds_20 : decode cX5_kinds 20 = .ok (.ireturn, 1) := by decide +kernel
theorem dX5_kinds_21 : decode cX5_kinds 21 = .ok (.iload_n 2, 1) := by decide +kernel
theorem dX5_kinds_22 : decode cX5_kinds 22 = .ok (.iconst 0, 1) := by decide +kernel
theorem dX5_kinds_23 : decode cX5_kinds 23 = .ok (.invokestatic 106, 3) := by decide +kernel
theorem dX5_kinds_26 : decode cX5_kinds 26 = .ok (.istore 4, 2) := by decide +kernel
theorem dX5_kinds_28 : decode cX5_kinds 28 = .ok (.aload_n 0, 1) := by decide +kernel
theorem dX5_kinds_29 : decode cX5_kinds 29 = .ok (.getfield 9, 3) := by decide +kernel
theorem dX5_kinds_32 : decode cX5_kinds 32 = .ok (.iload 4, 2) := by decide +kernel
theorem dX5_kinds_34 : decode cX5_kinds 34 = .ok (.iaload, 1) := by decide +kernel
theorem dX5_kinds_35 : decode cX5_kinds 35 = .ok (.istore 5, 2) := by decide +kernel
theorem dX5_kinds_37 : decode cX5_kinds 37 = .ok (.iconst 0, 1) := by decide +kernel
theorem dX5_kinds_38 : decode cX5_kinds 38 = .ok (.istore 6, 2) := by decide +kernel
theorem dX5_kinds_40 : decode cX5_kinds 40 = .ok (.iconst 0, 1) := by decide +kernel
theorem dX5_kinds_41 : decode cX5_kinds 41 = .ok (.istore 7, 2) := by decide +kernel
theorem dX5_kinds_43 : decode cX5_kinds 43 = .ok (.iload 7, 2) := by decide +kernel
theorem dX5_kinds_45 : decode cX5_kinds 45 = .ok (.bipush 6, 2) := by decide +kernel
theorem dX5_kinds_47 : decode cX5_kinds 47 = .ok (.if_icmp .gt 40, 3) := by decide +kernel
theorem dX5_kinds_50 : decode cX5_kinds 50 = .ok (.aload_n 0, 1) := by decide +kernel
theorem dX5_kinds_51 : decode cX5_kinds 51 = .ok (.getfield 9, 3) := by decide +kernel
theorem dX5_kinds_54 : decode cX5_kinds 54 = .ok (.iload 4, 2) := by decide +kernel
theorem dX5_kinds_56 : decode cX5_kinds 56 = .ok (.iload 7, 2) := by decide +kernel
theorem dX5_kinds_58 : decode cX5_kinds 58 = .ok (.iastore, 1) := by decide +kernel
theorem dX5_kinds_59 : decode cX5_kinds 59 = .ok (.iload 6, 2) := by decide +kernel
theorem dX5_kinds_61 : decode cX5_kinds 61 = .ok (.aload_n 0, 1) := by decide +kernel
theorem dX5_kinds_62 : decode cX5_kinds 62 = .ok (.iload_n 1, 1) := by decide +kernel
theorem dX5_kinds_63 : decode cX5_kinds 63 = .ok (.iload_n 2, 1) := by decide +kernel
theorem dX5_kinds_64 : decode cX5_kinds 64 = .ok (.invokevirtual 211, 3) := by decide +kernel
theorem dX5_kinds_67 : decode cX5_kinds 67 = .ok (.ifCond .eq 10, 3) := by decide +kernel
theorem dX5_kinds_70 : decode cX5_kinds 70 = .ok (.iconst 1, 1) := by decide +kernel
theorem dX5_kinds_71 : decode cX5_kinds 71 = .ok (.iload 7, 2) := by decide +kernel
theorem dX5_kinds_73 : decode cX5_kinds 73 = .ok (.ishl, 1) := by decide +kernel
theorem dX5_kinds_74 : decode cX5_kinds 74 = .ok (.goto 4, 3) := by decide +kernel
theorem dX5_kinds_77 : decode cX5_kinds 77 = .ok (.iconst 0, 1) := by decide +kernel
theorem dX5_kinds_78 : decode cX5_kinds 78 = .ok (.ior, 1) := by decide +kernel
theorem dX5_kinds_79 : decode cX5_kinds 79 = .ok (.istore 6, 2) := by decide +kernel
theorem dX5_kinds_81 : decode cX5_kinds 81 = .ok (.iinc 7 1, 3) := by decide +kernel
theorem dX5_kinds_84 : decode cX5_kinds 84 = .ok (.goto (-41), 3) := by decide +kernel
theorem dX5_kinds_87 : decode cX5_kinds 87 = .ok (.aload_n 0, 1) := by decide +kernel
theorem dX5_kinds_88 : decode cX5_kinds 88 = .ok (.getfield 9, 3) := by decide +kernel
theorem dX5_kinds_91 : decode cX5_kinds 91 = .ok (.iload 4, 2) := by decide +kernel
theorem dX5_kinds_93 : decode cX5_kinds 93 = .ok (.iload 5, 2) := by decide +kernel
theorem dX5_kinds_95 : decode cX5_kinds 95 = .ok (.iastore, 1) := by decide +kernel
theorem dX5_kinds_96 : decode cX5_kinds 96 = .ok (.iload 6, 2) := by decide +kernel
theorem dX5_kinds_98 : decode cX5_kinds 98 = .ok (.ireturn, 1) := by decide +kernel
theorem dX5_drawn_0 : decode cX5_drawn 0 = .ok (.aload_n 0, 1) := by decide +kernel
theorem dX5_drawn_1 : decode cX5_drawn 1 = .ok (.getfield 9, 3) := by decide +kernel
theorem dX5_drawn_4 : decode cX5_drawn 4 = .ok (.iconst 2, 1) := by decide +kernel
theorem dX5_drawn_5 : decode cX5_drawn 5 = .ok (.aload_n 0, 1) := by decide +kernel
theorem dX5_drawn_6 : decode cX5_drawn 6 = .ok (.getfield 9, 3) := by decide +kernel
theorem dX5_drawn_9 : decode cX5_drawn 9 = .ok (.iconst 2, 1) := by decide +kernel
theorem dX5_drawn_10 : decode cX5_drawn 10 = .ok (.iaload, 1) := by decide +kernel
theorem dX5_drawn_11 : decode cX5_drawn 11 = .ok (.ldc 214, 2) := by decide +kernel
theorem dX5_drawn_13 : decode cX5_drawn 13 = .ok (.imul, 1) := by decide +kernel
theorem dX5_drawn_14 : decode cX5_drawn 14 = .ok (.sipush 12345, 3) := by decide +kernel
theorem dX5_drawn_17 : decode cX5_drawn 17 = .ok (.iadd, 1) := by decide +kernel
theorem dX5_drawn_18 : decode cX5_drawn 18 = .ok (.iastore, 1) := by decide +kernel
theorem dX5_drawn_19 : decode cX5_drawn 19 = .ok (.aload_n 0, 1) := by decide +kernel
theorem dX5_drawn_20 : decode cX5_drawn 20 = .ok (.getfield 9, 3) := by decide +kernel
theorem dX5_drawn_23 : decode cX5_drawn 23 = .ok (.iconst 2, 1) := by decide +kernel
theorem dX5_drawn_24 : decode cX5_drawn 24 = .ok (.iaload, 1) := by decide +kernel
theorem dX5_drawn_25 : decode cX5_drawn 25 = .ok (.bipush 8, 2) := by decide +kernel
