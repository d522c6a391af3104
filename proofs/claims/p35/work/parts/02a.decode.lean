theorem dX0_cuts_0 : decode cX0_cuts 0 = .ok (.aload_n 0, 1) := by decide +kernel
theorem dX0_cuts_1 : decode cX0_cuts 1 = .ok (.iload_n 1, 1) := by decide +kernel
theorem dX0_cuts_2 : decode cX0_cuts 2 = .ok (.iload_n 2, 1) := by decide +kernel
theorem dX0_cuts_3 : decode cX0_cuts 3 = .ok (.invokevirtual 7, 3) := by decide +kernel
theorem dX0_cuts_6 : decode cX0_cuts 6 = .ok (.ifCond .ne 5, 3) := by decide +kernel
theorem dX0_cuts_9 : decode cX0_cuts 9 = .ok (.iconst 0, 1) := by decide +kernel
theorem dX0_cuts_10 : decode cX0_cuts 10 = .ok (.ireturn, 1) := by decide +kernel
theorem dX0_cuts_11 : decode cX0_cuts 11 = .ok (.aload_n 0, 1) := by decide +kernel
theorem dX0_cuts_12 : decode cX0_cuts 12 = .ok (.iload_n 1, 1) := by decide +kernel
theorem dX0_cuts_13 : decode cX0_cuts 13 = .ok (.iload_n 2, 1) := by decide +kernel
theorem dX0_cuts_14 : decode cX0_cuts 14 = .ok (.iload_n 3, 1) := by decide +kernel
theorem dX0_cuts_15 : decode cX0_cuts 15 = .ok (.invokevirtual 13, 3) := by decide +kernel
theorem dX0_cuts_18 : decode cX0_cuts 18 = .ok (.pop, 1) := by decide +kernel
theorem dX0_cuts_19 : decode cX0_cuts 19 = .ok (.iconst 1, 1) := by decide +kernel
theorem dX0_cuts_20 : decode cX0_cuts 20 = .ok (.ireturn, 1) := by decide +kernel
theorem dX0_inspects_0 : decode cX0_inspects 0 = .ok (.aload_n 0, 1) := by decide +kernel
theorem dX0_inspects_1 : decode cX0_inspects 1 = .ok (.iload_n 1, 1) := by decide +kernel
theorem dX0_inspects_2 : decode cX0_inspects 2 = .ok (.invokevirtual 17, 3) := by decide +kernel
theorem dX0_inspects_5 : decode cX0_inspects 5 = .ok (.ifCond .ne 5, 3) := by decide +kernel
theorem dX0_inspects_8 : decode cX0_inspects 8 = .ok (.iconst 0, 1) := by decide +kernel
theorem dX0_inspects_9 : decode cX0_inspects 9 = .ok (.ireturn, 1) := by decide +kernel
theorem dX0_inspects_10 : decode cX0_inspects 10 = .ok (.aload_n 0, 1) := by decide +kernel
theorem dX0_inspects_11 : decode cX0_inspects 11 = .ok (.iload_n 1, 1) := by decide +kernel
theorem dX0_inspects_12 : decode cX0_inspects 12 = .ok (.invokevirtual 21, 3) := by decide +kernel
theorem dX0_inspects_15 : decode cX0_inspects 15 = .ok (.pop, 1) := by decide +kernel
theorem dX0_inspects_16 : decode cX0_inspects 16 = .ok (.iconst 1, 1) := by decide +kernel
theorem dX0_inspects_17 : decode cX0_inspects 17 = .ok (.ireturn, 1) := by decide +kernel
theorem dX0_recuts_0 : decode cX0_recuts 0 = .ok (.aload_n 0, 1) := by decide +kernel
theorem dX0_recuts_1 : decode cX0_recuts 1 = .ok (.iload_n 1, 1) := by decide +kernel
theorem dX0_recuts_2 : decode cX0_recuts 2 = .ok (.iload_n 2, 1) := by decide +kernel
theorem dX0_recuts_3 : decode cX0_recuts 3 = .ok (.iload_n 3, 1) := by decide +kernel
theorem dX0_recuts_4 : decode cX0_recuts 4 = .ok (.invokevirtual 25, 3) := by decide +kernel
theorem dX0_recuts_7 : decode cX0_recuts 7 = .ok (.ifCond .ne 5, 3) := by decide +kernel
theorem dX0_recuts_10 : decode cX0_recuts 10 = .ok (.iconst 0, 1) := by decide +kernel
theorem dX0_recuts_11 : decode cX0_recuts 11 = .ok (.ireturn, 1) := by decide +kernel
theorem dX0_recuts_12 : decode cX0_recuts 12 = .ok (.aload_n 0, 1) := by decide +kernel
theorem dX0_recuts_13 : decode cX0_recuts 13 = .ok (.iload_n 1, 1) := by decide +kernel
theorem dX0_recuts_14 : decode cX0_recuts 14 = .ok (.iload_n 2, 1) := by decide +kernel
theorem dX0_recuts_15 : decode cX0_recuts 15 = .ok (.iload_n 3, 1) := by decide +kernel
theorem dX0_recuts_16 : decode cX0_recuts 16 = .ok (.invokevirtual 29, 3) := by decide +kernel
theorem dX0_recuts_19 : decode cX0_recuts 19 = .ok (.pop, 1) := by decide +kernel
theorem dX0_recuts_20 : decode cX0_recuts 20 = .ok (.iconst 1, 1) := by decide +kernel
theorem dX0_recuts_21 : decode cX0_recuts 21 = .ok (.ireturn, 1) := by decide +kernel
theorem dX0_scraps_0 : decode cX0_scraps 0 = .ok (.aload_n 0, 1) := by decide +kernel
theorem dX0_scraps_1 : decode cX0_scraps 1 = .ok (.iload_n 1, 1) := by decide +kernel
theorem dX0_scraps_2 : decode cX0_scraps 2 = .ok (.invokevirtual 32, 3) := by decide +kernel
theorem dX0_scraps_5 : decode cX0_scraps 5 = .ok (.ifCond .ne 5, 3) := by decide +kernel
theorem dX0_scraps_8 : decode cX0_scraps 8 = .ok (.iconst 0, 1) := by decide +kernel
theorem dX0_scraps_9 : decode cX0_scraps 9 = .ok (.ireturn, 1) := by decide +kernel
theorem dX0_scraps_10 : decode cX0_scraps 10 = .ok (.aload_n 0, 1) := by decide +kernel
theorem dX0_scraps_11 : decode cX0_scraps 11 = .ok (.iload_n 1, 1) := by decide +kernel
theorem dX0_scraps_12 : decode cX0_scraps 12 = .ok (.invokevirtual 35, 3) := by decide +kernel
theorem dX0_scraps_15 : decode cX0_scraps 15 = .ok (.pop, 1) := by decide +kernel
theorem dX0_scraps_16 : decode cX0_scraps 16 = .ok (.iconst 1, 1) := by decide +kernel
theorem dX0_scraps_17 : decode cX0_scraps 17 = .ok (.ireturn, 1) := by decide +kernel
theorem dX0_sets_0 : decode cX0_sets 0 = .ok (.aload_n 0, 1) := by decide +kernel
theorem dX0_sets_1 : decode cX0_sets 1 = .ok (.iload_n 1, 1) := by decide +kernel
theorem dX0_sets_2 : decode cX0_sets 2 = .ok (.invokevirtual 38, 3) := by decide +kernel
theorem dX0_sets_5 : decode cX0_sets 5 = .ok (.ifCond .eq 5, 3) := by decide +kernel
theorem dX0_sets_8 : decode cX0_sets 8 = .ok (.iconst 0, 1) := by decide +kernel
theorem dX0_sets_9 : decode cX0_sets 9 = .ok (.ireturn, 1) := by decide +kernel
theorem dX0_sets_10 : decode cX0_sets 10 = .ok (.aload_n 0, 1) := by decide +kernel
theorem dX0_sets_11 : decode cX0_sets 11 = .ok (.iload_n 1, 1) := by decide +kernel
theorem dX0_sets_12 : decode cX0_sets 12 = .ok (.invokevirtual 41, 3) := by decide +kernel
theorem dX0_sets_15 : decode cX0_sets 15 = .ok (.pop, 1) := by decide +kernel
theorem dX0_sets_16 : decode cX0_sets 16 = .ok (.iconst 1, 1) := by decide +kernel
theorem dX0_sets_17 : decode cX0_sets 17 = .ok (.ireturn, 1) := by decide +kernel
theorem dX1_init_0 : decode cX1_init 0 = .ok (.aload_n 0, 1) := by decide +kernel
theorem dX1_init_1 : decode cX1_init 1 = .ok (.invokespecial 3, 3) := by decide +kernel
theorem dX1_init_4 : decode cX1_init 4 = .ok (.aload_n 0, 1) := by decide +kernel
theorem dX1_init_5 : decode cX1_init 5 = .ok (.bipush 6, 2) := by decide +kernel
theorem dX1_init_7 : decode cX1_init 7 = .ok (.newarray .int, 2) := by decide +kernel
theorem dX1_init_9 : decode cX1_init 9 = .ok (.putfield 9, 3) := by decide +kernel
theorem dX1_init_12 : decode cX1_init 12 = .ok (.aload_n 0, 1) := by decide +kernel
theorem dX1_init_13 : decode cX1_init 13 = .ok (.bipush 6, 2) := by decide +kernel
theorem dX1_init_15 : decode cX1_init 15 = .ok (.newarray .int, 2) := by decide +kernel
theorem dX1_init_17 : decode cX1_init 17 = .ok (.putfield 15, 3) := by decide +kernel
theorem dX1_init_20 : decode cX1_init 20 = .ok (.return_, 1) := by decide +kernel
theorem dX1_daysFor_0 : decode cX1_daysFor 0 = .ok (.iconst 0, 1) := by decide +kernel
theorem dX1_daysFor_1 : decode cX1_daysFor 1 = .ok (.istore_n 2, 1) := by decide +kernel
theorem dX1_daysFor_2 : decode cX1_daysFor 2 = .ok (.iload_n 2, 1) := by decide +kernel
theorem dX1_daysFor_3 : decode cX1_daysFor 3 = .ok (.aload_n 0, 1) := by decide +kernel
theorem dX1_daysFor_4 : decode cX1_daysFor 4 = .ok (.getfield 9, 3) := by decide +kernel
theorem dX1_daysFor_7 : decode cX1_daysFor 7 = .ok (.arraylength, 1) := by decide +kernel
theorem dX1_daysFor_8 : decode cX1_daysFor 8 = .ok (.if_icmp .ge 35, 3) := by decide +kernel
theorem dX1_daysFor_11 : decode cX1_daysFor 11 = .ok (.aload_n 0, 1) := by decide +kernel
theorem dX1_daysFor_12 : decode cX1_daysFor 12 = .ok (.getfield 9, 3) := by decide +kernel
theorem dX1_daysFor_15 : decode cX1_daysFor 15 = .ok (.iload_n 2, 1) := by decide +kernel
theorem dX1_daysFor_16 : decode cX1_daysFor 16 = .ok (.aload_n 1, 1) := by decide +kernel
theorem dX1_daysFor_17 : decode cX1_daysFor 17 = .ok (.getfield 18, 3) := by decide +kernel
theorem dX1_daysFor_20 : decode cX1_daysFor 20 = .ok (.iload_n 2, 1) := by decide +kernel
theorem dX1_daysFor_21 : decode cX1_daysFor 21 = .ok (.invokevirtual 24, 3) := by decide +kernel
theorem dX1_daysFor_24 : decode cX1_daysFor 24 = .ok (.ifCond .eq 11, 3) := by decide +kernel
theorem dX1_daysFor_27 : decode cX1_daysFor 27 = .ok (.aload_n 1, 1) := by decide +kernel
theorem dX1_daysFor_28 : decode cX1_daysFor 28 = .ok (.iload_n 2, 1) := by decide +kernel
theorem dX1_daysFor_29 : decode cX1_daysFor 29 = .ok (.invokevirtual 30, 3) := by decide +kernel
theorem dX1_daysFor_32 : decode cX1_daysFor 32 = .ok (.goto 4, 3) := by decide +kernel
theorem dX1_daysFor_35 : decode cX1_daysFor 35 = .ok (.iconst 0, 1) := by decide +kernel
theorem dX1_daysFor_36 : decode cX1_daysFor 36 = .ok (.iastore, 1) := by decide +kernel
theorem dX1_daysFor_37 : decode cX1_daysFor 37 = .ok (.iinc 2 1, 3) := by decide +kernel
theorem dX1_daysFor_40 : decode cX1_daysFor 40 = .ok (.goto (-38), 3) := by decide +kernel
theorem dX1_daysFor_43 : decode cX1_daysFor 43 = .ok (.aload_n 0, 1) := by decide +kernel
theorem dX1_daysFor_44 : decode cX1_daysFor 44 = .ok (.aload_n 1, 1) := by decide +kernel
theorem dX1_daysFor_45 : decode cX1_daysFor 45 = .ok (.iconst 2, 1) := by decide +kernel
theorem dX1_daysFor_46 : decode cX1_daysFor 46 = .ok (.invokevirtual 33, 3) := by decide +kernel
theorem dX1_daysFor_49 : decode cX1_daysFor 49 = .ok (.iconst 0, 1) := by decide +kernel
theorem dX1_daysFor_50 : decode cX1_daysFor 50 = .ok (.istore_n 2, 1) := by decide +kernel
theorem dX1_daysFor_51 : decode cX1_daysFor 51 = .ok (.iload_n 2, 1) := by decide +kernel
theorem dX1_daysFor_52 : decode cX1_daysFor 52 = .ok (.bipush 99, 2) := by decide +kernel
theorem dX1_daysFor_54 : decode cX1_daysFor 54 = .ok (.if_icmp .gt 29, 3) := by decide +kernel
theorem dX1_daysFor_57 : decode cX1_daysFor 57 = .ok (.aload_n 0, 1) := by decide +kernel
theorem dX1_daysFor_58 : decode cX1_daysFor 58 = .ok (.invokevirtual 37, 3) := by decide +kernel
theorem dX1_daysFor_61 : decode cX1_daysFor 61 = .ok (.ifCond .ne 5, 3) := by decide +kernel
theorem dX1_daysFor_64 : decode cX1_daysFor 64 = .ok (.iload_n 2, 1) := by decide +kernel
theorem dX1_daysFor_65 : decode cX1_daysFor 65 = .ok (.ireturn, 1) := by decide +kernel
theorem dX1_daysFor_66 : decode cX1_daysFor 66 = .ok (.aload_n 0, 1) := by decide +kernel
theorem dX1_daysFor_67 : decode cX1_daysFor 67 = .ok (.aload_n 1, 1) := by decide +kernel
theorem dX1_daysFor_68 : decode cX1_daysFor 68 = .ok (.invokevirtual 41, 3) := by decide +kernel
theorem dX1_daysFor_71 : decode cX1_daysFor 71 = .ok (.aload_n 0, 1) := by decide +kernel
theorem dX1_daysFor_72 : decode cX1_daysFor 72 = .ok (.aload_n 1, 1) := by decide +kernel
theorem dX1_daysFor_73 : decode cX1_daysFor 73 = .ok (.iconst 1, 1) := by decide +kernel
theorem dX1_daysFor_74 : decode cX1_daysFor 74 = .ok (.invokevirtual 33, 3) := by decide +kernel
theorem dX1_daysFor_77 : decode cX1_daysFor 77 = .ok (.iinc 2 1, 3) := by decide +kernel
theorem dX1_daysFor_80 : decode cX1_daysFor 80 = .ok (.goto (-29), 3) := by decide +kernel
theorem dX1_daysFor_83 : decode cX1_daysFor 83 = .ok (.bipush (-9), 2) := by decide +kernel
theorem dX1_daysFor_85 : decode cX1_daysFor 85 = .ok (.ireturn, 1) := by decide +kernel
theorem dX1_takeWork_0 : decode cX1_takeWork 0 = .ok (.iconst 0, 1) := by decide +kernel
theorem dX1_takeWork_1 : decode cX1_takeWork 1 = .ok (.istore_n 3, 1) := by decide +kernel
theorem dX1_takeWork_2 : decode cX1_takeWork 2 = .ok (.iload_n 3, 1) := by decide +kernel
theorem dX1_takeWork_3 : decode cX1_takeWork 3 = .ok (.aload_n 0, 1) := by decide +kernel
theorem dX1_takeWork_4 : decode cX1_takeWork 4 = .ok (.getfield 15, 3) := by decide +kernel
theorem dX1_takeWork_7 : decode cX1_takeWork 7 = .ok (.arraylength, 1) := by decide +kernel
theorem dX1_takeWork_8 : decode cX1_takeWork 8 = .ok (.if_icmp .ge 24, 3) := by decide +kernel
theorem dX1_takeWork_11 : decode cX1_takeWork 11 = .ok (.aload_n 0, 1) := by decide +kernel
theorem dX1_takeWork_12 : decode cX1_takeWork 12 = .ok (.getfield 15, 3) := by decide +kernel
theorem dX1_takeWork_15 : decode cX1_takeWork 15 = .ok (.iload_n 3, 1) := by decide +kernel
theorem dX1_takeWork_16 : decode cX1_takeWork 16 = .ok (.aload_n 1, 1) := by decide +kernel
theorem dX1_takeWork_17 : decode cX1_takeWork 17 = .ok (.getfield 45, 3) := by decide +kernel
theorem dX1_takeWork_20 : decode cX1_takeWork 20 = .ok (.iload_n 3, 1) := by decide +kernel
theorem dX1_takeWork_21 : decode cX1_takeWork 21 = .ok (.iload_n 2, 1) := by decide +kernel
theorem dX1_takeWork_22 : decode cX1_takeWork 22 = .ok (.invokevirtual 48, 3) := by decide +kernel
theorem dX1_takeWork_25 : decode cX1_takeWork 25 = .ok (.iastore, 1) := by decide +kernel
theorem dX1_takeWork_26 : decode cX1_takeWork 26 = .ok (.iinc 3 1, 3) := by decide +kernel
theorem dX1_takeWork_29 : decode cX1_takeWork 29 = .ok (.goto (-27), 3) := by decide +kernel
theorem dX1_takeWork_32 : decode cX1_takeWork 32 = .ok (.return_, 1) := by decide +kernel
theorem dX1_isAnyLacking_0 : decode cX1_isAnyLacking 0 = .ok (.iconst 0, 1) := by decide +kernel
theorem dX1_isAnyLacking_1 : decode cX1_isAnyLacking 1 = .ok (.istore_n 1, 1) := by decide +kernel
theorem dX1_isAnyLacking_2 : decode cX1_isAnyLacking 2 = .ok (.iload_n 1, 1) := by decide +kernel
theorem dX1_isAnyLacking_3 : decode cX1_isAnyLacking 3 = .ok (.aload_n 0, 1) := by decide +kernel
theorem dX1_isAnyLacking_4 : decode cX1_isAnyLacking 4 = .ok (.getfield 9, 3) := by decide +kernel
theorem dX1_isAnyLacking_7 : decode cX1_isAnyLacking 7 = .ok (.arraylength, 1) := by decide +kernel
theorem dX1_isAnyLacking_8 : decode cX1_isAnyLacking 8 = .ok (.if_icmp .ge 20, 3) := by decide +kernel
theorem dX1_isAnyLacking_11 : decode cX1_isAnyLacking 11 = .ok (.aload_n 0, 1) := by decide +kernel
theorem dX1_isAnyLacking_12 : decode cX1_isAnyLacking 12 = .ok (.getfield 9, 3) := by decide +kernel
theorem dX1_isAnyLacking_15 : decode cX1_isAnyLacking 15 = .ok (.iload_n 1, 1) := by decide +kernel
theorem dX1_isAnyLacking_16 : decode cX1_isAnyLacking 16 = .ok (.iaload, 1) := by decide +kernel
theorem dX1_isAnyLacking_17 : decode cX1_isAnyLacking 17 = .ok (.ifCond .le 5, 3) := by decide +kernel
theorem dX1_isAnyLacking_20 : decode cX1_isAnyLacking 20 = .ok (.iconst 1, 1) := by decide +kernel
theorem dX1_isAnyLacking_21 : decode cX1_isAnyLacking 21 = .ok (.ireturn, 1) := by decide +kernel
theorem dX1_isAnyLacking_22 : decode cX1_isAnyLacking 22 = .ok (.iinc 1 1, 3) := by decide +kernel
theorem dX1_isAnyLacking_25 : decode cX1_isAnyLacking 25 = .ok (.goto (-23), 3) := by decide +kernel
theorem dX1_isAnyLacking_28 : decode cX1_isAnyLacking 28 = .ok (.iconst 0, 1) := by decide +kernel
theorem dX1_isAnyLacking_29 : decode cX1_isAnyLacking 29 = .ok (.ireturn, 1) := by decide +kernel
theorem dX1_workOneDay_0 : decode cX1_workOneDay 0 = .ok (.iconst 0, 1) := by decide +kernel
theorem dX1_workOneDay_1 : decode cX1_workOneDay 1 = .ok (.istore_n 2, 1) := by decide +kernel
theorem dX1_workOneDay_2 : decode cX1_workOneDay 2 = .ok (.iload_n 2, 1) := by decide +kernel
theorem dX1_workOneDay_3 : decode cX1_workOneDay 3 = .ok (.aload_n 0, 1) := by decide +kernel
theorem dX1_workOneDay_4 : decode cX1_workOneDay 4 = .ok (.getfield 15, 3) := by decide +kernel
theorem dX1_workOneDay_7 : decode cX1_workOneDay 7 = .ok (.arraylength, 1) := by decide +kernel
theorem dX1_workOneDay_8 : decode cX1_workOneDay 8 = .ok (.if_icmp .ge 55, 3) := by decide +kernel
theorem dX1_workOneDay_11 : decode cX1_workOneDay 11 = .ok (.iconst 0, 1) := by decide +kernel
theorem dX1_workOneDay_12 : decode cX1_workOneDay 12 = .ok (.istore_n 3, 1) := by decide +kernel
theorem dX1_workOneDay_13 : decode cX1_workOneDay 13 = .ok (.iload_n 3, 1) := by decide +kernel
theorem dX1_workOneDay_14 : decode cX1_workOneDay 14 = .ok (.bipush 12, 2) := by decide +kernel
theorem dX1_workOneDay_16 : decode cX1_workOneDay 16 = .ok (.if_icmp .ge 41, 3) := by decide +kernel
theorem dX1_workOneDay_19 : decode cX1_workOneDay 19 = .ok (.aload_n 0, 1) := by decide +kernel
theorem dX1_workOneDay_20 : decode cX1_workOneDay 20 = .ok (.aload_n 1, 1) := by decide +kernel
theorem dX1_workOneDay_21 : decode cX1_workOneDay 21 = .ok (.aload_n 0, 1) := by decide +kernel
theorem dX1_workOneDay_22 : decode cX1_workOneDay 22 = .ok (.getfield 15, 3) := by decide +kernel
theorem dX1_workOneDay_25 : decode cX1_workOneDay 25 = .ok (.iload_n 2, 1) := by decide +kernel
theorem dX1_workOneDay_26 : decode cX1_workOneDay 26 = .ok (.iaload, 1) := by decide +kernel
theorem dX1_workOneDay_27 : decode cX1_workOneDay 27 = .ok (.invokevirtual 52, 3) := by decide +kernel
theorem dX1_workOneDay_30 : decode cX1_workOneDay 30 = .ok (.istore 4, 2) := by decide +kernel
theorem dX1_workOneDay_32 : decode cX1_workOneDay 32 = .ok (.iload 4, 2) := by decide +kernel
theorem dX1_workOneDay_34 : decode cX1_workOneDay 34 = .ok (.ifCond .ne 6, 3) := by decide +kernel
theorem dX1_workOneDay_37 : decode cX1_workOneDay 37 = .ok (.goto 20, 3) := by decide +kernel
theorem dX1_workOneDay_40 : decode cX1_workOneDay 40 = .ok (.aload_n 0, 1) := by decide +kernel
theorem dX1_workOneDay_41 : decode cX1_workOneDay 41 = .ok (.getfield 15, 3) := by decide +kernel
theorem dX1_workOneDay_44 : decode cX1_workOneDay 44 = .ok (.iload_n 2, 1) := by decide +kernel
theorem dX1_workOneDay_45 : decode cX1_workOneDay 45 = .ok (.dup2, 1) := by decide +kernel
theorem dX1_workOneDay_46 : decode cX1_workOneDay 46 = .ok (.iaload, 1) := by decide +kernel
theorem dX1_workOneDay_47 : decode cX1_workOneDay 47 = .ok (.iload 4, 2) := by decide +kernel
theorem dX1_workOneDay_49 : decode cX1_workOneDay 49 = .ok (.isub, 1) := by decide +kernel
theorem dX1_workOneDay_50 : decode cX1_workOneDay 50 = .ok (.iastore, 1) := by decide +kernel
theorem dX1_workOneDay_51 : decode cX1_workOneDay 51 = .ok (.iinc 3 1, 3) := by decide +kernel
theorem dX1_workOneDay_54 : decode cX1_workOneDay 54 = .ok (.goto (-41), 3) := by decide +kernel
theorem dX1_workOneDay_57 : decode cX1_workOneDay 57 = .ok (.iinc 2 1, 3) := by decide +kernel
theorem dX1_workOneDay_60 : decode cX1_workOneDay 60 = .ok (.goto (-58), 3) := by decide +kernel
theorem dX1_workOneDay_63 : decode cX1_workOneDay 63 = .ok (.return_, 1) := by decide +kernel
theorem dX1_cutNext_0 : decode cX1_cutNext 0 = .ok (.iconst 0, 1) := by decide +kernel
theorem dX1_cutNext_1 : decode cX1_cutNext 1 = .ok (.istore_n 3, 1) := by decide +kernel
theorem dX1_cutNext_2 : decode cX1_cutNext 2 = .ok (.iload_n 3, 1) := by decide +kernel
theorem dX1_cutNext_3 : decode cX1_cutNext 3 = .ok (.aload_n 0, 1) := by decide +kernel
theorem dX1_cutNext_4 : decode cX1_cutNext 4 = .ok (.getfield 9, 3) := by decide +kernel
theorem dX1_cutNext_7 : decode cX1_cutNext 7 = .ok (.arraylength, 1) := by decide +kernel
theorem dX1_cutNext_8 : decode cX1_cutNext 8 = .ok (.if_icmp .ge 48, 3) := by decide +kernel
theorem dX1_cutNext_11 : decode cX1_cutNext 11 = .ok (.aload_n 1, 1) := by decide +kernel
theorem dX1_cutNext_12 : decode cX1_cutNext 12 = .ok (.getfield 18, 3) := by decide +kernel
theorem dX1_cutNext_15 : decode cX1_cutNext 15 = .ok (.iload_n 3, 1) := by decide +kernel
theorem dX1_cutNext_16 : decode cX1_cutNext 16 = .ok (.iconst 1, 1) := by decide +kernel
theorem dX1_cutNext_17 : decode cX1_cutNext 17 = .ok (.invokevirtual 48, 3) := by decide +kernel
theorem dX1_cutNext_20 : decode cX1_cutNext 20 = .ok (.istore 4, 2) := by decide +kernel
theorem dX1_cutNext_22 : decode cX1_cutNext 22 = .ok (.aload_n 0, 1) := by decide +kernel
theorem dX1_cutNext_23 : decode cX1_cutNext 23 = .ok (.getfield 9, 3) := by decide +kernel
theorem dX1_cutNext_26 : decode cX1_cutNext 26 = .ok (.iload_n 3, 1) := by decide +kernel
theorem dX1_cutNext_27 : decode cX1_cutNext 27 = .ok (.iaload, 1) := by decide +kernel
theorem dX1_cutNext_28 : decode cX1_cutNext 28 = .ok (.ifCond .le 22, 3) := by decide +kernel
theorem dX1_cutNext_31 : decode cX1_cutNext 31 = .ok (.iload 4, 2) := by decide +kernel
theorem dX1_cutNext_33 : decode cX1_cutNext 33 = .ok (.iload_n 2, 1) := by decide +kernel
theorem dX1_cutNext_34 : decode cX1_cutNext 34 = .ok (.if_icmp .gt 16, 3) := by decide +kernel
theorem dX1_cutNext_37 : decode cX1_cutNext 37 = .ok (.aload_n 0, 1) := by decide +kernel
theorem dX1_cutNext_38 : decode cX1_cutNext 38 = .ok (.getfield 9, 3) := by decide +kernel
theorem dX1_cutNext_41 : decode cX1_cutNext 41 = .ok (.iload_n 3, 1) := by decide +kernel
theorem dX1_cutNext_42 : decode cX1_cutNext 42 = .ok (.dup2, 1) := by decide +kernel
theorem dX1_cutNext_43 : decode cX1_cutNext 43 = .ok (.iaload, 1) := by decide +kernel
theorem dX1_cutNext_44 : decode cX1_cutNext 44 = .ok (.iconst 1, 1) := by decide +kernel
theorem dX1_cutNext_45 : decode cX1_cutNext 45 = .ok (.isub, 1) := by decide +kernel
theorem dX1_cutNext_46 : decode cX1_cutNext 46 = .ok (.iastore, 1) := by decide +kernel
theorem dX1_cutNext_47 : decode cX1_cutNext 47 = .ok (.iload 4, 2) := by decide +kernel
theorem dX1_cutNext_49 : decode cX1_cutNext 49 = .ok (.ireturn, 1) := by decide +kernel
theorem dX1_cutNext_50 : decode cX1_cutNext 50 = .ok (.iinc 3 1, 3) := by decide +kernel
theorem dX1_cutNext_53 : decode cX1_cutNext 53 = .ok (.goto (-51), 3) := by decide +kernel
theorem dX1_cutNext_56 : decode cX1_cutNext 56 = .ok (.iconst 0, 1) := by decide +kernel
theorem dX1_cutNext_57 : decode cX1_cutNext 57 = .ok (.ireturn, 1) := by decide +kernel
theorem dX2_init_0 : decode cX2_init 0 = .ok (.aload_n 0, 1) := by decide +kernel
theorem dX2_init_1 : decode cX2_init 1 = .ok (.invokespecial 3, 3) := by decide +kernel
theorem dX2_init_4 : decode cX2_init 4 = .ok (.aload_n 0, 1) := by decide +kernel
theorem dX2_init_5 : decode cX2_init 5 = .ok (.new 9, 3) := by decide +kernel
theorem dX2_init_8 : decode cX2_init 8 = .ok (.dup, 1) := by decide +kernel
theorem dX2_init_9 : decode cX2_init 9 = .ok (.bipush 18, 2) := by decide +kernel
theorem dX2_init_11 : decode cX2_init 11 = .ok (.newarray .int, 2) := by decide +kernel
theorem dX2_init_13 : decode cX2_init 13 = .ok (.iconst 3, 1) := by decide +kernel
theorem dX2_init_14 : decode cX2_init 14 = .ok (.bipush 6, 2) := by decide +kernel
theorem dX2_init_16 : decode cX2_init 16 = .ok (.invokespecial 11, 3) := by decide +kernel
theorem dX2_init_19 : decode cX2_init 19 = .ok (.putfield 14, 3) := by decide +kernel
theorem dX2_init_22 : decode cX2_init 22 = .ok (.aload_n 0, 1) := by decide +kernel
theorem dX2_init_23 : decode cX2_init 23 = .ok (.new 9, 3) := by decide +kernel
theorem dX2_init_26 : decode cX2_init 26 = .ok (.dup, 1) := by decide +kernel
theorem dX2_init_27 : decode cX2_init 27 = .ok (.bipush 24, 2) := by decide +kernel
theorem dX2_init_29 : decode cX2_init 29 = .ok (.newarray .int, 2) := by decide +kernel
theorem dX2_init_31 : decode cX2_init 31 = .ok (.iconst 4, 1) := by decide +kernel
theorem dX2_init_32 : decode cX2_init 32 = .ok (.bipush 6, 2) := by decide +kernel
theorem dX2_init_34 : decode cX2_init 34 = .ok (.invokespecial 11, 3) := by decide +kernel
theorem dX2_init_37 : decode cX2_init 37 = .ok (.putfield 20, 3) := by decide +kernel
theorem dX2_init_40 : decode cX2_init 40 = .ok (.aload_n 0, 1) := by decide +kernel
theorem dX2_init_41 : decode cX2_init 41 = .ok (.new 9, 3) := by decide +kernel
theorem dX2_init_44 : decode cX2_init 44 = .ok (.dup, 1) := by decide +kernel
theorem dX2_init_45 : decode cX2_init 45 = .ok (.sipush 144, 3) := by decide +kernel
theorem dX2_init_48 : decode cX2_init 48 = .ok (.newarray .int, 2) := by decide +kernel
theorem dX2_init_50 : decode cX2_init 50 = .ok (.bipush 6, 2) := by decide +kernel
theorem dX2_init_52 : decode cX2_init 52 = .ok (.bipush 24, 2) := by decide +kernel
theorem dX2_init_54 : decode cX2_init 54 = .ok (.invokespecial 11, 3) := by decide +kernel
theorem dX2_init_57 : decode cX2_init 57 = .ok (.putfield 23, 3) := by decide +kernel
theorem dX2_init_60 : decode cX2_init 60 = .ok (.aload_n 0, 1) := by decide +kernel
theorem dX2_init_61 : decode cX2_init 61 = .ok (.iconst 3, 1) := by decide +kernel
theorem dX2_init_62 : decode cX2_init 62 = .ok (.putfield 26, 3) := by decide +kernel
theorem dX2_init_65 : decode cX2_init 65 = .ok (.return_, 1) := by decide +kernel
theorem dX2_makeNew_0 : decode cX2_makeNew 0 = .ok (.aload_n 0, 1) := by decide +kernel
theorem dX2_makeNew_1 : decode cX2_makeNew 1 = .ok (.getfield 14, 3) := by decide +kernel
theorem dX2_makeNew_4 : decode cX2_makeNew 4 = .ok (.invokevirtual 30, 3) := by decide +kernel
theorem dX2_makeNew_7 : decode cX2_makeNew 7 = .ok (.aload_n 0, 1) := by decide +kernel
theorem dX2_makeNew_8 : decode cX2_makeNew 8 = .ok (.getfield 20, 3) := by decide +kernel
theorem dX2_makeNew_11 : decode cX2_makeNew 11 = .ok (.invokevirtual 30, 3) := by decide +kernel
theorem dX2_makeNew_14 : decode cX2_makeNew 14 = .ok (.aload_n 0, 1) := by decide +kernel
theorem dX2_makeNew_15 : decode cX2_makeNew 15 = .ok (.getfield 23, 3) := by decide +kernel
theorem dX2_makeNew_18 : decode cX2_makeNew 18 = .ok (.invokevirtual 30, 3) := by decide +kernel
theorem dX2_makeNew_21 : decode cX2_makeNew 21 = .ok (.aload_n 0, 1) := by decide +kernel
theorem dX2_makeNew_22 : decode cX2_makeNew 22 = .ok (.iconst 0, 1) := by decide +kernel
theorem dX2_makeNew_23 : decode cX2_makeNew 23 = .ok (.putfield 33, 3) := by decide +kernel
theorem dX2_makeNew_26 : decode cX2_makeNew 26 = .ok (.aload_n 0, 1) := by decide +kernel
theorem dX2_makeNew_27 : decode cX2_makeNew 27 = .ok (.iconst 0, 1) := by decide +kernel
theorem dX2_makeNew_28 : decode cX2_makeNew 28 = .ok (.putfield 36, 3) := by decide +kernel
theorem dX2_makeNew_31 : decode cX2_makeNew 31 = .ok (.aload_n 0, 1) := by decide +kernel
theorem dX2_makeNew_32 : decode cX2_makeNew 32 = .ok (.iconst 3, 1) := by decide +kernel
theorem dX2_makeNew_33 : decode cX2_makeNew 33 = .ok (.putfield 26, 3) := by decide +kernel
theorem dX2_makeNew_36 : decode cX2_makeNew 36 = .ok (.aload_n 0, 1) := by decide +kernel
theorem dX2_makeNew_37 : decode cX2_makeNew 37 = .ok (.iconst 0, 1) := by decide +kernel
theorem dX2_makeNew_38 : decode cX2_makeNew 38 = .ok (.putfield 40, 3) := by decide +kernel
theorem dX2_makeNew_41 : decode cX2_makeNew 41 = .ok (.aload_n 0, 1) := by decide +kernel
theorem dX2_makeNew_42 : decode cX2_makeNew 42 = .ok (.iconst 0, 1) := by decide +kernel
theorem dX2_makeNew_43 : decode cX2_makeNew 43 = .ok (.putfield 43, 3) := by decide +kernel
theorem dX2_makeNew_46 : decode cX2_makeNew 46 = .ok (.return_, 1) := by decide +kernel
theorem dX2_copyFrom_0 : decode cX2_copyFrom 0 = .ok (.aload_n 0, 1) := by decide +kernel
theorem dX2_copyFrom_1 : decode cX2_copyFrom 1 = .ok (.getfield 14, 3) := by decide +kernel
theorem dX2_copyFrom_4 : decode cX2_copyFrom 4 = .ok (.aload_n 1, 1) := by decide +kernel
theorem dX2_copyFrom_5 : decode cX2_copyFrom 5 = .ok (.getfield 14, 3) := by decide +kernel
theorem dX2_copyFrom_8 : decode cX2_copyFrom 8 = .ok (.invokevirtual 46, 3) := by decide +kernel
theorem dX2_copyFrom_11 : decode cX2_copyFrom 11 = .ok (.aload_n 0, 1) := by decide +kernel
theorem dX2_copyFrom_12 : decode cX2_copyFrom 12 = .ok (.getfield 20, 3) := by decide +kernel
theorem dX2_copyFrom_15 : decode cX2_copyFrom 15 = .ok (.aload_n 1, 1) := by decide +kernel
theorem dX2_copyFrom_16 : decode cX2_copyFrom 16 = .ok (.getfield 20, 3) := by decide +kernel
theorem dX2_copyFrom_19 : decode cX2_copyFrom 19 = .ok (.invokevirtual 46, 3) := by decide +kernel
theorem dX2_copyFrom_22 : decode cX2_copyFrom 22 = .ok (.aload_n 0, 1) := by decide +kernel
theorem dX2_copyFrom_23 : decode cX2_copyFrom 23 = .ok (.getfield 23, 3) := by decide +kernel
theorem dX2_copyFrom_26 : decode cX2_copyFrom 26 = .ok (.aload_n 1, 1) := by decide +kernel
theorem dX2_copyFrom_27 : decode cX2_copyFrom 27 = .ok (.getfield 23, 3) := by decide +kernel
theorem dX2_copyFrom_30 : decode cX2_copyFrom 30 = .ok (.invokevirtual 46, 3) := by decide +kernel
theorem dX2_copyFrom_33 : decode cX2_copyFrom 33 = .ok (.aload_n 0, 1) := by decide +kernel
theorem dX2_copyFrom_34 : decode cX2_copyFrom 34 = .ok (.aload_n 1, 1) := by decide +kernel
theorem dX2_copyFrom_35 : decode cX2_copyFrom 35 = .ok (.getfield 33, 3) := by decide +kernel
theorem dX2_copyFrom_38 : decode cX2_copyFrom 38 = .ok (.putfield 33, 3) := by decide +kernel
theorem dX2_copyFrom_41 : decode cX2_copyFrom 41 = .ok (.aload_n 0, 1) := by decide +kernel
theorem dX2_copyFrom_42 : decode cX2_copyFrom 42 = .ok (.aload_n 1, 1) := by decide +kernel
theorem dX2_copyFrom_43 : decode cX2_copyFrom 43 = .ok (.getfield 36, 3) := by decide +kernel
theorem dX2_copyFrom_46 : decode cX2_copyFrom 46 = .ok (.putfield 36, 3) := by decide +kernel
theorem dX2_copyFrom_49 : decode cX2_copyFrom 49 = .ok (.aload_n 0, 1) := by decide +kernel
theorem dX2_copyFrom_50 : decode cX2_copyFrom 50 = .ok (.aload_n 1, 1) := by decide +kernel
theorem dX2_copyFrom_51 : decode cX2_copyFrom 51 = .ok (.getfield 26, 3) := by decide +kernel
theorem dX2_copyFrom_54 : decode cX2_copyFrom 54 = .ok (.putfield 26, 3) := by decide +kernel
theorem dX2_copyFrom_57 : decode cX2_copyFrom 57 = .ok (.aload_n 0, 1) := by decide +kernel
theorem dX2_copyFrom_58 : decode cX2_copyFrom 58 = .ok (.aload_n 1, 1) := by decide +kernel
theorem dX2_copyFrom_59 : decode cX2_copyFrom 59 = .ok (.getfield 40, 3) := by decide +kernel
theorem dX2_copyFrom_62 : decode cX2_copyFrom 62 = .ok (.putfield 40, 3) := by decide +kernel
theorem dX2_copyFrom_65 : decode cX2_copyFrom 65 = .ok (.aload_n 0, 1) := by decide +kernel
theorem dX2_copyFrom_66 : decode cX2_copyFrom 66 = .ok (.aload_n 1, 1) := by decide +kernel
theorem dX2_copyFrom_67 : decode cX2_copyFrom 67 = .ok (.getfield 43, 3) := by decide +kernel
theorem dX2_copyFrom_70 : decode cX2_copyFrom 70 = .ok (.putfield 43, 3) := by decide +kernel
theorem dX2_copyFrom_73 : decode cX2_copyFrom 73 = .ok (.return_, 1) := by decide +kernel
theorem dX2_completeCourses_0 : decode cX2_completeCourses 0 = .ok (.iconst 0, 1) := by decide +kernel
theorem dX2_completeCourses_1 : decode cX2_completeCourses 1 = .ok (.istore_n 1, 1) := by decide +kernel
theorem dX2_completeCourses_2 : decode cX2_completeCourses 2 = .ok (.iload_n 1, 1) := by decide +kernel
theorem dX2_completeCourses_3 : decode cX2_completeCourses 3 = .ok (.aload_n 0, 1) := by decide +kernel
theorem dX2_completeCourses_4 : decode cX2_completeCourses 4 = .ok (.getfield 14, 3) := by decide +kernel
theorem dX2_completeCourses_7 : decode cX2_completeCourses 7 = .ok (.invokevirtual 50, 3) := by decide +kernel
theorem dX2_completeCourses_10 : decode cX2_completeCourses 10 = .ok (.if_icmp .ge 34, 3) := by decide +kernel
theorem dX2_completeCourses_13 : decode cX2_completeCourses 13 = .ok (.aload_n 0, 1) := by decide +kernel
theorem dX2_completeCourses_14 : decode cX2_completeCourses 14 = .ok (.getfield 23, 3) := by decide +kernel
theorem dX2_completeCourses_17 : decode cX2_completeCourses 17 = .ok (.iconst 0, 1) := by decide +kernel
theorem dX2_completeCourses_18 : decode cX2_completeCourses 18 = .ok (.iload_n 1, 1) := by decide +kernel
theorem dX2_completeCourses_19 : decode cX2_completeCourses 19 = .ok (.iconst 3, 1) := by decide +kernel
theorem dX2_completeCourses_20 : decode cX2_completeCourses 20 = .ok (.iconst 3, 1) := by decide +kernel
theorem dX2_completeCourses_21 : decode cX2_completeCourses 21 = .ok (.invokevirtual 54, 3) := by decide +kernel
theorem dX2_completeCourses_24 : decode cX2_completeCourses 24 = .ok (.aload_n 0, 1) := by decide +kernel
theorem dX2_completeCourses_25 : decode cX2_completeCourses 25 = .ok (.getfield 14, 3) := by decide +kernel
theorem dX2_completeCourses_28 : decode cX2_completeCourses 28 = .ok (.iload_n 1, 1) := by decide +kernel
theorem dX2_completeCourses_29 : decode cX2_completeCourses 29 = .ok (.iconst 2, 1) := by decide +kernel
theorem dX2_completeCourses_30 : decode cX2_completeCourses 30 = .ok (.invokevirtual 58, 3) := by decide +kernel
theorem dX2_completeCourses_33 : decode cX2_completeCourses 33 = .ok (.if_icmp .ge 5, 3) := by decide +kernel
theorem dX2_completeCourses_36 : decode cX2_completeCourses 36 = .ok (.iload_n 1, 1) := by decide +kernel
theorem dX2_completeCourses_37 : decode cX2_completeCourses 37 = .ok (.ireturn, 1) := by decide +kernel
theorem dX2_completeCourses_38 : decode cX2_completeCourses 38 = .ok (.iinc 1 1, 3) := by decide +kernel
theorem dX2_completeCourses_41 : decode cX2_completeCourses 41 = .ok (.goto (-39), 3) := by decide +kernel
theorem dX2_completeCourses_44 : decode cX2_completeCourses 44 = .ok (.aload_n 0, 1) := by decide +kernel
theorem dX2_completeCourses_45 : decode cX2_completeCourses 45 = .ok (.getfield 14, 3) := by decide +kernel
theorem dX2_completeCourses_48 : decode cX2_completeCourses 48 = .ok (.invokevirtual 50, 3) := by decide +kernel
theorem dX2_completeCourses_51 : decode cX2_completeCourses 51 = .ok (.ireturn, 1) := by decide +kernel
theorem dX2_lacking_0 : decode cX2_lacking 0 = .ok (.aload_n 0, 1) := by decide +kernel
theorem dX2_lacking_1 : decode cX2_lacking 1 = .ok (.getfield 23, 3) := by decide +kernel
theorem dX2_lacking_4 : decode cX2_lacking 4 = .ok (.iconst 0, 1) := by decide +kernel
theorem dX2_lacking_5 : decode cX2_lacking 5 = .ok (.iload_n 1, 1) := by decide +kernel
theorem dX2_lacking_6 : decode cX2_lacking 6 = .ok (.iconst 3, 1) := by decide +kernel
theorem dX2_lacking_7 : decode cX2_lacking 7 = .ok (.iconst 3, 1) := by decide +kernel
theorem dX2_lacking_8 : decode cX2_lacking 8 = .ok (.invokevirtual 54, 3) := by decide +kernel
theorem dX2_lacking_11 : decode cX2_lacking 11 = .ok (.aload_n 0, 1) := by decide +kernel
theorem dX2_lacking_12 : decode cX2_lacking 12 = .ok (.getfield 23, 3) := by decide +kernel
theorem dX2_lacking_15 : decode cX2_lacking 15 = .ok (.iconst 0, 1) := by decide +kernel
theorem dX2_lacking_16 : decode cX2_lacking 16 = .ok (.iload_n 1, 1) := by decide +kernel
theorem dX2_lacking_17 : decode cX2_lacking 17 = .ok (.iconst 3, 1) := by decide +kernel
theorem dX2_lacking_18 : decode cX2_lacking 18 = .ok (.iconst 1, 1) := by decide +kernel
theorem dX2_lacking_19 : decode cX2_lacking 19 = .ok (.invokevirtual 54, 3) := by decide +kernel
theorem dX2_lacking_22 : decode cX2_lacking 22 = .ok (.iadd, 1) := by decide +kernel
theorem dX2_lacking_23 : decode cX2_lacking 23 = .ok (.istore_n 2, 1) := by decide +kernel
theorem dX2_lacking_24 : decode cX2_lacking 24 = .ok (.iconst 0, 1) := by decide +kernel
theorem dX2_lacking_25 : decode cX2_lacking 25 = .ok (.aload_n 0, 1) := by decide +kernel
theorem dX2_lacking_26 : decode cX2_lacking 26 = .ok (.getfield 14, 3) := by decide +kernel
theorem dX2_lacking_29 : decode cX2_lacking 29 = .ok (.iload_n 1, 1) := by decide +kernel
theorem dX2_lacking_30 : decode cX2_lacking 30 = .ok (.iconst 2, 1) := by decide +kernel
theorem dX2_lacking_31 : decode cX2_lacking 31 = .ok (.invokevirtual 58, 3) := by decide +kernel
theorem dX2_lacking_34 : decode cX2_lacking 34 = .ok (.iload_n 2, 1) := by decide +kernel
theorem dX2_lacking_35 : decode cX2_lacking 35 = .ok (.isub, 1) := by decide +kernel
theorem dX2_lacking_36 : decode cX2_lacking 36 = .ok (.invokestatic 62, 3) := by decide +kernel
theorem dX2_lacking_39 : decode cX2_lacking 39 = .ok (.ireturn, 1) := by decide +kernel
theorem dX2_badMarks_0 : decode cX2_badMarks 0 = .ok (.aload_n 0, 1) := by decide +kernel
theorem dX2_badMarks_1 : decode cX2_badMarks 1 = .ok (.getfield 23, 3) := by decide +kernel
theorem dX2_badMarks_4 : decode cX2_badMarks 4 = .ok (.iconst 1, 1) := by decide +kernel
theorem dX2_badMarks_5 : decode cX2_badMarks 5 = .ok (.iload_n 1, 1) := by decide +kernel
theorem dX2_badMarks_6 : decode cX2_badMarks 6 = .ok (.iconst 3, 1) := by decide +kernel
theorem dX2_badMarks_7 : decode cX2_badMarks 7 = .ok (.iconst 2, 1) := by decide +kernel
theorem dX2_badMarks_8 : decode cX2_badMarks 8 = .ok (.invokevirtual 54, 3) := by decide +kernel
theorem dX2_badMarks_11 : decode cX2_badMarks 11 = .ok (.aload_n 0, 1) := by decide +kernel
theorem dX2_badMarks_12 : decode cX2_badMarks 12 = .ok (.getfield 23, 3) := by decide +kernel
theorem dX2_badMarks_15 : decode cX2_badMarks 15 = .ok (.iconst 1, 1) := by decide +kernel
theorem dX2_badMarks_16 : decode cX2_badMarks 16 = .ok (.iload_n 1, 1) := by decide +kernel
theorem dX2_badMarks_17 : decode cX2_badMarks 17 = .ok (.iconst 3, 1) := by decide +kernel
theorem dX2_badMarks_18 : decode cX2_badMarks 18 = .ok (.iconst 4, 1) := by decide +kernel
theorem dX2_badMarks_19 : decode cX2_badMarks 19 = .ok (.invokevirtual 54, 3) := by decide +kernel
theorem dX2_badMarks_22 : decode cX2_badMarks 22 = .ok (.iadd, 1) := by decide +kernel
theorem dX2_badMarks_23 : decode cX2_badMarks 23 = .ok (.ireturn, 1) := by decide +kernel
theorem dX2_hindrance_0 : decode cX2_hindrance 0 = .ok (.aload_n 0, 1) := by decide +kernel
theorem dX2_hindrance_1 : decode cX2_hindrance 1 = .ok (.getfield 23, 3) := by decide +kernel
theorem dX2_hindrance_4 : decode cX2_hindrance 4 = .ok (.iload_n 1, 1) := by decide +kernel
theorem dX2_hindrance_5 : decode cX2_hindrance 5 = .ok (.iconst 3, 1) := by decide +kernel
theorem dX2_hindrance_6 : decode cX2_hindrance 6 = .ok (.invokevirtual 58, 3) := by decide +kernel
theorem dX2_hindrance_9 : decode cX2_hindrance 9 = .ok (.iconst 1, 1) := by decide +kernel
theorem dX2_hindrance_10 : decode cX2_hindrance 10 = .ok (.if_icmp .eq 5, 3) := by decide +kernel
theorem dX2_hindrance_13 : decode cX2_hindrance 13 = .ok (.iconst 1, 1) := by decide +kernel
theorem dX2_hindrance_14 : decode cX2_hindrance 14 = .ok (.ireturn, 1) := by decide +kernel
theorem dX2_hindrance_15 : decode cX2_hindrance 15 = .ok (.aload_n 0, 1) := by decide +kernel
theorem dX2_hindrance_16 : decode cX2_hindrance 16 = .ok (.getfield 36, 3) := by decide +kernel
theorem dX2_hindrance_19 : decode cX2_hindrance 19 = .ok (.ifCond .eq 5, 3) := by decide +kernel
theorem dX2_hindrance_22 : decode cX2_hindrance 22 = .ok (.iconst 2, 1) := by decide +kernel
theorem dX2_hindrance_23 : decode cX2_hindrance 23 = .ok (.ireturn, 1) := by decide +kernel
theorem dX2_hindrance_24 : decode cX2_hindrance 24 = .ok (.aload_n 0, 1) := by decide +kernel
theorem dX2_hindrance_25 : decode cX2_hindrance 25 = .ok (.getfield 23, 3) := by decide +kernel
theorem dX2_hindrance_28 : decode cX2_hindrance 28 = .ok (.iload_n 1, 1) := by decide +kernel
theorem dX2_hindrance_29 : decode cX2_hindrance 29 = .ok (.iconst 0, 1) := by decide +kernel
theorem dX2_hindrance_30 : decode cX2_hindrance 30 = .ok (.invokevirtual 58, 3) := by decide +kernel
theorem dX2_hindrance_33 : decode cX2_hindrance 33 = .ok (.istore_n 2, 1) := by decide +kernel
theorem dX2_hindrance_34 : decode cX2_hindrance 34 = .ok (.aload_n 0, 1) := by decide +kernel
theorem dX2_hindrance_35 : decode cX2_hindrance 35 = .ok (.invokevirtual 67, 3) := by decide +kernel
theorem dX2_hindrance_38 : decode cX2_hindrance 38 = .ok (.istore_n 3, 1) := by decide +kernel
theorem dX2_hindrance_39 : decode cX2_hindrance 39 = .ok (.iload_n 2, 1) := by decide +kernel
theorem dX2_hindrance_40 : decode cX2_hindrance 40 = .ok (.iload_n 3, 1) := by decide +kernel
theorem dX2_hindrance_41 : decode cX2_hindrance 41 = .ok (.if_icmp .le 5, 3) := by decide +kernel
theorem dX2_hindrance_44 : decode cX2_hindrance 44 = .ok (.iconst 3, 1) := by decide +kernel
theorem dX2_hindrance_45 : decode cX2_hindrance 45 = .ok (.ireturn, 1) := by decide +kernel
theorem dX2_hindrance_46 : decode cX2_hindrance 46 = .ok (.iload_n 2, 1) := by decide +kernel
theorem dX2_hindrance_47 : decode cX2_hindrance 47 = .ok (.iload_n 3, 1) := by decide +kernel
theorem dX2_hindrance_48 : decode cX2_hindrance 48 = .ok (.if_icmp .ge 7, 3) := by decide +kernel
theorem dX2_hindrance_51 : decode cX2_hindrance 51 = .ok (.iconst 4, 1) := by decide +kernel
theorem dX2_hindrance_52 : decode cX2_hindrance 52 = .ok (.goto 4, 3) := by decide +kernel
theorem dX2_hindrance_55 : decode cX2_hindrance 55 = .ok (.iconst 0, 1) := by decide +kernel
theorem dX2_hindrance_56 : decode cX2_hindrance 56 = .ok (.ireturn, 1) := by decide +kernel
theorem dX2_newCourse_0 : decode cX2_newCourse 0 = .ok (.aload_n 0, 1) := by decide +kernel
theorem dX2_newCourse_1 : decode cX2_newCourse 1 = .ok (.getfield 14, 3) := by decide +kernel
theorem dX2_newCourse_4 : decode cX2_newCourse 4 = .ok (.invokevirtual 70, 3) := by decide +kernel
theorem dX2_newCourse_7 : decode cX2_newCourse 7 = .ok (.istore 4, 2) := by decide +kernel
theorem dX2_newCourse_9 : decode cX2_newCourse 9 = .ok (.aload_n 0, 1) := by decide +kernel
theorem dX2_newCourse_10 : decode cX2_newCourse 10 = .ok (.getfield 14, 3) := by decide +kernel
theorem dX2_newCourse_13 : decode cX2_newCourse 13 = .ok (.iload 4, 2) := by decide +kernel
theorem dX2_newCourse_15 : decode cX2_newCourse 15 = .ok (.iconst 0, 1) := by decide +kernel
theorem dX2_newCourse_16 : decode cX2_newCourse 16 = .ok (.iload_n 1, 1) := by decide +kernel
theorem dX2_newCourse_17 : decode cX2_newCourse 17 = .ok (.invokevirtual 73, 3) := by decide +kernel
theorem dX2_newCourse_20 : decode cX2_newCourse 20 = .ok (.aload_n 0, 1) := by decide +kernel
theorem dX2_newCourse_21 : decode cX2_newCourse 21 = .ok (.getfield 14, 3) := by decide +kernel
theorem dX2_newCourse_24 : decode cX2_newCourse 24 = .ok (.iload 4, 2) := by decide +kernel
theorem dX2_newCourse_26 : decode cX2_newCourse 26 = .ok (.iconst 1, 1) := by decide +kernel
theorem dX2_newCourse_27 : decode cX2_newCourse 27 = .ok (.iload_n 2, 1) := by decide +kernel
theorem dX2_newCourse_28 : decode cX2_newCourse 28 = .ok (.invokevirtual 73, 3) := by decide +kernel
theorem dX2_newCourse_31 : decode cX2_newCourse 31 = .ok (.aload_n 0, 1) := by decide +kernel
theorem dX2_newCourse_32 : decode cX2_newCourse 32 = .ok (.getfield 14, 3) := by decide +kernel
theorem dX2_newCourse_35 : decode cX2_newCourse 35 = .ok (.iload 4, 2) := by decide +kernel
theorem dX2_newCourse_37 : decode cX2_newCourse 37 = .ok (.iconst 2, 1) := by decide +kernel
theorem dX2_newCourse_38 : decode cX2_newCourse 38 = .ok (.iload_n 3, 1) := by decide +kernel
theorem dX2_newCourse_39 : decode cX2_newCourse 39 = .ok (.invokevirtual 73, 3) := by decide +kernel
theorem dX2_newCourse_42 : decode cX2_newCourse 42 = .ok (.iload 4, 2) := by decide +kernel
theorem dX2_newCourse_44 : decode cX2_newCourse 44 = .ok (.ireturn, 1) := by decide +kernel
theorem dX2_newMason_0 : decode cX2_newMason 0 = .ok (.aload_n 0, 1) := by decide +kernel
theorem dX2_newMason_1 : decode cX2_newMason 1 = .ok (.getfield 20, 3) := by decide +kernel
theorem dX2_newMason_4 : decode cX2_newMason 4 = .ok (.invokevirtual 70, 3) := by decide +kernel
theorem dX2_newMason_7 : decode cX2_newMason 7 = .ok (.istore_n 3, 1) := by decide +kernel
theorem dX2_newMason_8 : decode cX2_newMason 8 = .ok (.aload_n 0, 1) := by decide +kernel
theorem dX2_newMason_9 : decode cX2_newMason 9 = .ok (.getfield 20, 3) := by decide +kernel
theorem dX2_newMason_12 : decode cX2_newMason 12 = .ok (.iload_n 3, 1) := by decide +kernel
theorem dX2_newMason_13 : decode cX2_newMason 13 = .ok (.iconst 0, 1) := by decide +kernel
theorem dX2_newMason_14 : decode cX2_newMason 14 = .ok (.iload_n 1, 1) := by decide +kernel
theorem dX2_newMason_15 : decode cX2_newMason 15 = .ok (.invokevirtual 73, 3) := by decide +kernel
theorem dX2_newMason_18 : decode cX2_newMason 18 = .ok (.aload_n 0, 1) := by decide +kernel
theorem dX2_newMason_19 : decode cX2_newMason 19 = .ok (.getfield 20, 3) := by decide +kernel
theorem dX2_newMason_22 : decode cX2_newMason 22 = .ok (.iload_n 3, 1) := by decide +kernel
theorem dX2_newMason_23 : decode cX2_newMason 23 = .ok (.iconst 1, 1) := by decide +kernel
theorem dX2_newMason_24 : decode cX2_newMason 24 = .ok (.iload_n 2, 1) := by decide +kernel
theorem dX2_newMason_25 : decode cX2_newMason 25 = .ok (.invokevirtual 73, 3) := by decide +kernel
theorem dX2_newMason_28 : decode cX2_newMason 28 = .ok (.aload_n 0, 1) := by decide +kernel
theorem dX2_newMason_29 : decode cX2_newMason 29 = .ok (.getfield 20, 3) := by decide +kernel
theorem dX2_newMason_32 : decode cX2_newMason 32 = .ok (.iload_n 3, 1) := by decide +kernel
theorem dX2_newMason_33 : decode cX2_newMason 33 = .ok (.iconst 2, 1) := by decide +kernel
theorem dX2_newMason_34 : decode cX2_newMason 34 = .ok (.iconst 0, 1) := by decide +kernel
theorem dX2_newMason_35 : decode cX2_newMason 35 = .ok (.invokevirtual 73, 3) := by decide +kernel
theorem dX2_newMason_38 : decode cX2_newMason 38 = .ok (.aload_n 0, 1) := by decide +kernel
theorem dX2_newMason_39 : decode cX2_newMason 39 = .ok (.getfield 20, 3) := by decide +kernel
theorem dX2_newMason_42 : decode cX2_newMason 42 = .ok (.iload_n 3, 1) := by decide +kernel
theorem dX2_newMason_43 : decode cX2_newMason 43 = .ok (.iconst 3, 1) := by decide +kernel
theorem dX2_newMason_44 : decode cX2_newMason 44 = .ok (.iconst 0, 1) := by decide +kernel
theorem dX2_newMason_45 : decode cX2_newMason 45 = .ok (.invokevirtual 73, 3) := by decide +kernel
theorem dX2_newMason_48 : decode cX2_newMason 48 = .ok (.iload_n 3, 1) := by decide +kernel
theorem dX2_newMason_49 : decode cX2_newMason 49 = .ok (.ireturn, 1) := by decide +kernel
theorem dX2_newStone_0 : decode cX2_newStone 0 = .ok (.aload_n 0, 1) := by decide +kernel
theorem dX2_newStone_1 : decode cX2_newStone 1 = .ok (.getfield 23, 3) := by decide +kernel
theorem dX2_newStone_4 : decode cX2_newStone 4 = .ok (.invokevirtual 70, 3) := by decide +kernel
theorem dX2_newStone_7 : decode cX2_newStone 7 = .ok (.istore 4, 2) := by decide +kernel
theorem dX2_newStone_9 : decode cX2_newStone 9 = .ok (.aload_n 0, 1) := by decide +kernel
theorem dX2_newStone_10 : decode cX2_newStone 10 = .ok (.getfield 23, 3) := by decide +kernel
theorem dX2_newStone_13 : decode cX2_newStone 13 = .ok (.iload 4, 2) := by decide +kernel
theorem dX2_newStone_15 : decode cX2_newStone 15 = .ok (.iconst 0, 1) := by decide +kernel
theorem dX2_newStone_16 : decode cX2_newStone 16 = .ok (.iload_n 2, 1) := by decide +kernel
theorem dX2_newStone_17 : decode cX2_newStone 17 = .ok (.invokevirtual 73, 3) := by decide +kernel
theorem dX2_newStone_20 : decode cX2_newStone 20 = .ok (.aload_n 0, 1) := by decide +kernel
theorem dX2_newStone_21 : decode cX2_newStone 21 = .ok (.getfield 23, 3) := by decide +kernel
theorem dX2_newStone_24 : decode cX2_newStone 24 = .ok (.iload 4, 2) := by decide +kernel
theorem dX2_newStone_26 : decode cX2_newStone 26 = .ok (.iconst 1, 1) := by decide +kernel
theorem dX2_newStone_27 : decode cX2_newStone 27 = .ok (.iload_n 1, 1) := by decide +kernel
theorem dX2_newStone_28 : decode cX2_newStone 28 = .ok (.invokevirtual 73, 3) := by decide +kernel
theorem dX2_newStone_31 : decode cX2_newStone 31 = .ok (.aload_n 0, 1) := by decide +kernel
theorem dX2_newStone_32 : decode cX2_newStone 32 = .ok (.getfield 23, 3) := by decide +kernel
theorem dX2_newStone_35 : decode cX2_newStone 35 = .ok (.iload 4, 2) := by decide +kernel
theorem dX2_newStone_37 : decode cX2_newStone 37 = .ok (.iconst 2, 1) := by decide +kernel
theorem dX2_newStone_38 : decode cX2_newStone 38 = .ok (.iload_n 3, 1) := by decide +kernel
theorem dX2_newStone_39 : decode cX2_newStone 39 = .ok (.invokevirtual 73, 3) := by decide +kernel
theorem dX2_newStone_42 : decode cX2_newStone 42 = .ok (.aload_n 0, 1) := by decide +kernel
theorem dX2_newStone_43 : decode cX2_newStone 43 = .ok (.getfield 23, 3) := by decide +kernel
theorem dX2_newStone_46 : decode cX2_newStone 46 = .ok (.iload 4, 2) := by decide +kernel
theorem dX2_newStone_48 : decode cX2_newStone 48 = .ok (.iconst 3, 1) := by decide +kernel
theorem dX2_newStone_49 : decode cX2_newStone 49 = .ok (.iconst 0, 1) := by decide +kernel
theorem dX2_newStone_50 : decode cX2_newStone 50 = .ok (.invokevirtual 73, 3) := by decide +kernel
theorem dX2_newStone_53 : decode cX2_newStone 53 = .ok (.aload_n 0, 1) := by decide +kernel
theorem dX2_newStone_54 : decode cX2_newStone 54 = .ok (.getfield 23, 3) := by decide +kernel
theorem dX2_newStone_57 : decode cX2_newStone 57 = .ok (.iload 4, 2) := by decide +kernel
theorem dX2_newStone_59 : decode cX2_newStone 59 = .ok (.iconst 4, 1) := by decide +kernel
theorem dX2_newStone_60 : decode cX2_newStone 60 = .ok (.iconst 0, 1) := by decide +kernel
theorem dX2_newStone_61 : decode cX2_newStone 61 = .ok (.invokevirtual 73, 3) := by decide +kernel
theorem dX2_newStone_64 : decode cX2_newStone 64 = .ok (.aload_n 0, 1) := by decide +kernel
theorem dX2_newStone_65 : decode cX2_newStone 65 = .ok (.getfield 23, 3) := by decide +kernel
theorem dX2_newStone_68 : decode cX2_newStone 68 = .ok (.iload 4, 2) := by decide +kernel
theorem dX2_newStone_70 : decode cX2_newStone 70 = .ok (.iconst 5, 1) := by decide +kernel
theorem dX2_newStone_71 : decode cX2_newStone 71 = .ok (.iload_n 1, 1) := by decide +kernel
theorem dX2_newStone_72 : decode cX2_newStone 72 = .ok (.invokevirtual 73, 3) := by decide +kernel
theorem dX2_newStone_75 : decode cX2_newStone 75 = .ok (.iload 4, 2) := by decide +kernel
theorem dX2_newStone_77 : decode cX2_newStone 77 = .ok (.ireturn, 1) := by decide +kernel
theorem dX2_hasWorkToCut_0 : decode cX2_hasWorkToCut 0 = .ok (.aload_n 0, 1) := by decide +kernel
theorem dX2_hasWorkToCut_1 : decode cX2_hasWorkToCut 1 = .ok (.getfield 20, 3) := by decide +kernel
theorem dX2_hasWorkToCut_4 : decode cX2_hasWorkToCut 4 = .ok (.iload_n 1, 1) := by decide +kernel
theorem dX2_hasWorkToCut_5 : decode cX2_hasWorkToCut 5 = .ok (.iconst 2, 1) := by decide +kernel
theorem dX2_hasWorkToCut_6 : decode cX2_hasWorkToCut 6 = .ok (.invokevirtual 58, 3) := by decide +kernel
theorem dX2_hasWorkToCut_9 : decode cX2_hasWorkToCut 9 = .ok (.aload_n 0, 1) := by decide +kernel
theorem dX2_hasWorkToCut_10 : decode cX2_hasWorkToCut 10 = .ok (.getfield 14, 3) := by decide +kernel
theorem dX2_hasWorkToCut_13 : decode cX2_hasWorkToCut 13 = .ok (.iload_n 2, 1) := by decide +kernel
theorem dX2_hasWorkToCut_14 : decode cX2_hasWorkToCut 14 = .ok (.iconst 1, 1) := by decide +kernel
theorem dX2_hasWorkToCut_15 : decode cX2_hasWorkToCut 15 = .ok (.invokevirtual 58, 3) := by decide +kernel
theorem dX2_hasWorkToCut_18 : decode cX2_hasWorkToCut 18 = .ok (.if_icmp .lt 7, 3) := by decide +kernel
theorem dX2_hasWorkToCut_21 : decode cX2_hasWorkToCut 21 = .ok (.iconst 1, 1) := by decide +kernel
theorem dX2_hasWorkToCut_22 : decode cX2_hasWorkToCut 22 = .ok (.goto 4, 3) := by decide +kernel
theorem dX2_hasWorkToCut_25 : decode cX2_hasWorkToCut 25 = .ok (.iconst 0, 1) := by decide +kernel
theorem dX2_hasWorkToCut_26 : decode cX2_hasWorkToCut 26 = .ok (.ireturn, 1) := by decide +kernel
theorem dX2_mayCut_0 : decode cX2_mayCut 0 = .ok (.aload_n 0, 1) := by decide +kernel
theorem dX2_mayCut_1 : decode cX2_mayCut 1 = .ok (.getfield 20, 3) := by decide +kernel
theorem dX2_mayCut_4 : decode cX2_mayCut 4 = .ok (.iload_n 1, 1) := by decide +kernel
theorem dX2_mayCut_5 : decode cX2_mayCut 5 = .ok (.invokevirtual 77, 3) := by decide +kernel
theorem dX2_mayCut_8 : decode cX2_mayCut 8 = .ok (.ifCond .eq 37, 3) := by decide +kernel
theorem dX2_mayCut_11 : decode cX2_mayCut 11 = .ok (.aload_n 0, 1) := by decide +kernel
theorem dX2_mayCut_12 : decode cX2_mayCut 12 = .ok (.getfield 14, 3) := by decide +kernel
theorem dX2_mayCut_15 : decode cX2_mayCut 15 = .ok (.iload_n 2, 1) := by decide +kernel
theorem dX2_mayCut_16 : decode cX2_mayCut 16 = .ok (.invokevirtual 77, 3) := by decide +kernel
theorem dX2_mayCut_19 : decode cX2_mayCut 19 = .ok (.ifCond .eq 26, 3) := by decide +kernel
theorem dX2_mayCut_22 : decode cX2_mayCut 22 = .ok (.aload_n 0, 1) := by decide +kernel
theorem dX2_mayCut_23 : decode cX2_mayCut 23 = .ok (.iload_n 1, 1) := by decide +kernel
theorem dX2_mayCut_24 : decode cX2_mayCut 24 = .ok (.iload_n 2, 1) := by decide +kernel
theorem dX2_mayCut_25 : decode cX2_mayCut 25 = .ok (.invokevirtual 81, 3) := by decide +kernel
theorem dX2_mayCut_28 : decode cX2_mayCut 28 = .ok (.ifCond .eq 17, 3) := by decide +kernel
theorem dX2_mayCut_31 : decode cX2_mayCut 31 = .ok (.aload_n 0, 1) := by decide +kernel
theorem dX2_mayCut_32 : decode cX2_mayCut 32 = .ok (.getfield 23, 3) := by decide +kernel
theorem dX2_mayCut_35 : decode cX2_mayCut 35 = .ok (.invokevirtual 85, 3) := by decide +kernel
theorem dX2_mayCut_38 : decode cX2_mayCut 38 = .ok (.ifCond .eq 7, 3) := by decide +kernel
theorem dX2_mayCut_41 : decode cX2_mayCut 41 = .ok (.iconst 1, 1) := by decide +kernel
theorem dX2_mayCut_42 : decode cX2_mayCut 42 = .ok (.goto 4, 3) := by decide +kernel
theorem dX2_mayCut_45 : decode cX2_mayCut 45 = .ok (.iconst 0, 1) := by decide +kernel
theorem dX2_mayCut_46 : decode cX2_mayCut 46 = .ok (.ireturn, 1) := by decide +kernel
theorem dX2_cutStone_0 : decode cX2_cutStone 0 = .ok (.aload_n 0, 1) := by decide +kernel
theorem dX2_cutStone_1 : decode cX2_cutStone 1 = .ok (.getfield 20, 3) := by decide +kernel
theorem dX2_cutStone_4 : decode cX2_cutStone 4 = .ok (.iload_n 1, 1) := by decide +kernel
theorem dX2_cutStone_5 : decode cX2_cutStone 5 = .ok (.iconst 2, 1) := by decide +kernel
theorem dX2_cutStone_6 : decode cX2_cutStone 6 = .ok (.aload_n 0, 1) := by decide +kernel
theorem dX2_cutStone_7 : decode cX2_cutStone 7 = .ok (.getfield 14, 3) := by decide +kernel
theorem dX2_cutStone_10 : decode cX2_cutStone 10 = .ok (.iload_n 2, 1) := by decide +kernel
theorem dX2_cutStone_11 : decode cX2_cutStone 11 = .ok (.iconst 1, 1) := by decide +kernel
theorem dX2_cutStone_12 : decode cX2_cutStone 12 = .ok (.invokevirtual 58, 3) := by decide +kernel
theorem dX2_cutStone_15 : decode cX2_cutStone 15 = .ok (.ineg, 1) := by decide +kernel
theorem dX2_cutStone_16 : decode cX2_cutStone 16 = .ok (.invokevirtual 89, 3) := by decide +kernel
theorem dX2_cutStone_19 : decode cX2_cutStone 19 = .ok (.aload_n 0, 1) := by decide +kernel
theorem dX2_cutStone_20 : decode cX2_cutStone 20 = .ok (.iload_n 1, 1) := by decide +kernel
theorem dX2_cutStone_21 : decode cX2_cutStone 21 = .ok (.iload_n 2, 1) := by decide +kernel
theorem dX2_cutStone_22 : decode cX2_cutStone 22 = .ok (.iload_n 3, 1) := by decide +kernel
theorem dX2_cutStone_23 : decode cX2_cutStone 23 = .ok (.invokevirtual 92, 3) := by decide +kernel
theorem dX2_cutStone_26 : decode cX2_cutStone 26 = .ok (.ireturn, 1) := by decide +kernel
theorem dX2_mayInspect_0 : decode cX2_mayInspect 0 = .ok (.aload_n 0, 1) := by decide +kernel
theorem dX2_mayInspect_1 : decode cX2_mayInspect 1 = .ok (.getfield 23, 3) := by decide +kernel
theorem dX2_mayInspect_4 : decode cX2_mayInspect 4 = .ok (.iload_n 1, 1) := by decide +kernel
theorem dX2_mayInspect_5 : decode cX2_mayInspect 5 = .ok (.invokevirtual 77, 3) := by decide +kernel
theorem dX2_mayInspect_8 : decode cX2_mayInspect 8 = .ok (.ifCond .eq 19, 3) := by decide +kernel
theorem dX2_mayInspect_11 : decode cX2_mayInspect 11 = .ok (.aload_n 0, 1) := by decide +kernel
theorem dX2_mayInspect_12 : decode cX2_mayInspect 12 = .ok (.getfield 23, 3) := by decide +kernel
theorem dX2_mayInspect_15 : decode cX2_mayInspect 15 = .ok (.iload_n 1, 1) := by decide +kernel
theorem dX2_mayInspect_16 : decode cX2_mayInspect 16 = .ok (.iconst 3, 1) := by decide +kernel
theorem dX2_mayInspect_17 : decode cX2_mayInspect 17 = .ok (.invokevirtual 58, 3) := by decide +kernel
theorem dX2_mayInspect_20 : decode cX2_mayInspect 20 = .ok (.ifCond .ne 7, 3) := by decide +kernel
theorem dX2_mayInspect_23 : decode cX2_mayInspect 23 = .ok (.iconst 1, 1) := by decide +kernel
theorem dX2_mayInspect_24 : decode cX2_mayInspect 24 = .ok (.goto 4, 3) := by decide +kernel
theorem dX2_mayInspect_27 : decode cX2_mayInspect 27 = .ok (.iconst 0, 1) := by decide +kernel
theorem dX2_mayInspect_28 : decode cX2_mayInspect 28 = .ok (.ireturn, 1) := by decide +kernel
theorem dX2_priceOf_0 : decode cX2_priceOf 0 = .ok (.aload_n 0, 1) := by decide +kernel
theorem dX2_priceOf_1 : decode cX2_priceOf 1 = .ok (.getfield 14, 3) := by decide +kernel
theorem dX2_priceOf_4 : decode cX2_priceOf 4 = .ok (.aload_n 0, 1) := by decide +kernel
theorem dX2_priceOf_5 : decode cX2_priceOf 5 = .ok (.getfield 23, 3) := by decide +kernel
theorem dX2_priceOf_8 : decode cX2_priceOf 8 = .ok (.iload_n 1, 1) := by decide +kernel
theorem dX2_priceOf_9 : decode cX2_priceOf 9 = .ok (.iconst 0, 1) := by decide +kernel
theorem dX2_priceOf_10 : decode cX2_priceOf 10 = .ok (.invokevirtual 58, 3) := by decide +kernel
theorem dX2_priceOf_13 : decode cX2_priceOf 13 = .ok (.iconst 1, 1) := by decide +kernel
theorem dX2_priceOf_14 : decode cX2_priceOf 14 = .ok (.invokevirtual 58, 3) := by decide +kernel
theorem dX2_priceOf_17 : decode cX2_priceOf 17 = .ok (.aload_n 0, 1) := by decide +kernel
theorem dX2_priceOf_18 : decode cX2_priceOf 18 = .ok (.getfield 20, 3) := by decide +kernel
theorem dX2_priceOf_21 : decode cX2_priceOf 21 = .ok (.aload_n 0, 1) := by decide +kernel
theorem dX2_priceOf_22 : decode cX2_priceOf 22 = .ok (.getfield 23, 3) := by decide +kernel
theorem dX2_priceOf_25 : decode cX2_priceOf 25 = .ok (.iload_n 1, 1) := by decide +kernel
theorem dX2_priceOf_26 : decode cX2_priceOf 26 = .ok (.iconst 1, 1) := by decide +kernel
theorem dX2_priceOf_27 : decode cX2_priceOf 27 = .ok (.invokevirtual 58, 3) := by decide +kernel
theorem dX2_priceOf_30 : decode cX2_priceOf 30 = .ok (.iconst 0, 1) := by decide +kernel
theorem dX2_priceOf_31 : decode cX2_priceOf 31 = .ok (.invokevirtual 58, 3) := by decide +kernel
theorem dX2_priceOf_34 : decode cX2_priceOf 34 = .ok (.imul, 1) := by decide +kernel
theorem dX2_priceOf_35 : decode cX2_priceOf 35 = .ok (.istore_n 2, 1) := by decide +kernel
theorem dX2_priceOf_36 : decode cX2_priceOf 36 = .ok (.aload_n 0, 1) := by decide +kernel
theorem dX2_priceOf_37 : decode cX2_priceOf 37 = .ok (.getfield 23, 3) := by decide +kernel
theorem dX2_priceOf_40 : decode cX2_priceOf 40 = .ok (.iload_n 1, 1) := by decide +kernel
theorem dX2_priceOf_41 : decode cX2_priceOf 41 = .ok (.iconst 4, 1) := by decide +kernel
theorem dX2_priceOf_42 : decode cX2_priceOf 42 = .ok (.invokevirtual 58, 3) := by decide +kernel
theorem dX2_priceOf_45 : decode cX2_priceOf 45 = .ok (.ifCond .le 9, 3) := by decide +kernel
theorem dX2_priceOf_48 : decode cX2_priceOf 48 = .ok (.iload_n 2, 1) := by decide +kernel
theorem dX2_priceOf_49 : decode cX2_priceOf 49 = .ok (.iconst 2, 1) := by decide +kernel
theorem dX2_priceOf_50 : decode cX2_priceOf 50 = .ok (.idiv, 1) := by decide +kernel
theorem dX2_priceOf_51 : decode cX2_priceOf 51 = .ok (.goto 4, 3) := by decide +kernel
theorem dX2_priceOf_54 : decode cX2_priceOf 54 = .ok (.iload_n 2, 1) := by decide +kernel
theorem dX2_priceOf_55 : decode cX2_priceOf 55 = .ok (.ireturn, 1) := by decide +kernel
theorem dX2_inspectStone_0 : decode cX2_inspectStone 0 = .ok (.aload_n 0, 1) := by decide +kernel
theorem dX2_inspectStone_1 : decode cX2_inspectStone 1 = .ok (.getfield 23, 3) := by decide +kernel
theorem dX2_inspectStone_4 : decode cX2_inspectStone 4 = .ok (.iload_n 1, 1) := by decide +kernel
theorem dX2_inspectStone_5 : decode cX2_inspectStone 5 = .ok (.iconst 2, 1) := by decide +kernel
theorem dX2_inspectStone_6 : decode cX2_inspectStone 6 = .ok (.invokevirtual 58, 3) := by decide +kernel
theorem dX2_inspectStone_9 : decode cX2_inspectStone 9 = .ok (.aload_n 0, 1) := by decide +kernel
theorem dX2_inspectStone_10 : decode cX2_inspectStone 10 = .ok (.getfield 26, 3) := by decide +kernel
theorem dX2_inspectStone_13 : decode cX2_inspectStone 13 = .ok (.if_icmp .le 16, 3) := by decide +kernel
theorem dX2_inspectStone_16 : decode cX2_inspectStone 16 = .ok (.aload_n 0, 1) := by decide +kernel
theorem dX2_inspectStone_17 : decode cX2_inspectStone 17 = .ok (.getfield 23, 3) := by decide +kernel
theorem dX2_inspectStone_20 : decode cX2_inspectStone 20 = .ok (.iload_n 1, 1) := by decide +kernel
theorem dX2_inspectStone_21 : decode cX2_inspectStone 21 = .ok (.iconst 3, 1) := by decide +kernel
theorem dX2_inspectStone_22 : decode cX2_inspectStone 22 = .ok (.iconst 2, 1) := by decide +kernel
theorem dX2_inspectStone_23 : decode cX2_inspectStone 23 = .ok (.invokevirtual 73, 3) := by decide +kernel
theorem dX2_inspectStone_26 : decode cX2_inspectStone 26 = .ok (.bipush (-9), 2) := by decide +kernel
theorem dX2_inspectStone_28 : decode cX2_inspectStone 28 = .ok (.ireturn, 1) := by decide +kernel
theorem dX2_inspectStone_29 : decode cX2_inspectStone 29 = .ok (.aload_n 0, 1) := by decide +kernel
theorem dX2_inspectStone_30 : decode cX2_inspectStone 30 = .ok (.iload_n 1, 1) := by decide +kernel
theorem dX2_inspectStone_31 : decode cX2_inspectStone 31 = .ok (.invokevirtual 96, 3) := by decide +kernel
theorem dX2_inspectStone_34 : decode cX2_inspectStone 34 = .ok (.istore_n 2, 1) := by decide +kernel
theorem dX2_inspectStone_35 : decode cX2_inspectStone 35 = .ok (.aload_n 0, 1) := by decide +kernel
theorem dX2_inspectStone_36 : decode cX2_inspectStone 36 = .ok (.getfield 23, 3) := by decide +kernel
theorem dX2_inspectStone_39 : decode cX2_inspectStone 39 = .ok (.iload_n 1, 1) := by decide +kernel
theorem dX2_inspectStone_40 : decode cX2_inspectStone 40 = .ok (.iconst 3, 1) := by decide +kernel
theorem dX2_inspectStone_41 : decode cX2_inspectStone 41 = .ok (.iconst 1, 1) := by decide +kernel
theorem dX2_inspectStone_42 : decode cX2_inspectStone 42 = .ok (.invokevirtual 73, 3) := by decide +kernel
theorem dX2_inspectStone_45 : decode cX2_inspectStone 45 = .ok (.aload_n 0, 1) := by decide +kernel
theorem dX2_inspectStone_46 : decode cX2_inspectStone 46 = .ok (.getfield 20, 3) := by decide +kernel
theorem dX2_inspectStone_49 : decode cX2_inspectStone 49 = .ok (.aload_n 0, 1) := by decide +kernel
theorem dX2_inspectStone_50 : decode cX2_inspectStone 50 = .ok (.getfield 23, 3) := by decide +kernel
theorem dX2_inspectStone_53 : decode cX2_inspectStone 53 = .ok (.iload_n 1, 1) := by decide +kernel
theorem dX2_inspectStone_54 : decode cX2_inspectStone 54 = .ok (.iconst 1, 1) := by decide +kernel
theorem dX2_inspectStone_55 : decode cX2_inspectStone 55 = .ok (.invokevirtual 58, 3) := by decide +kernel
theorem dX2_inspectStone_58 : decode cX2_inspectStone 58 = .ok (.iconst 3, 1) := by decide +kernel
theorem dX2_inspectStone_59 : decode cX2_inspectStone 59 = .ok (.iload_n 2, 1) := by decide +kernel
theorem dX2_inspectStone_60 : decode cX2_inspectStone 60 = .ok (.invokevirtual 89, 3) := by decide +kernel
theorem dX2_inspectStone_63 : decode cX2_inspectStone 63 = .ok (.iload_n 2, 1) := by decide +kernel
theorem dX2_inspectStone_64 : decode cX2_inspectStone 64 = .ok (.ireturn, 1) := by decide +kernel
theorem dX2_workToRecut_0 : decode cX2_workToRecut 0 = .ok (.aload_n 0, 1) := by decide +kernel
theorem dX2_workToRecut_1 : decode cX2_workToRecut 1 = .ok (.getfield 14, 3) := by decide +kernel
theorem dX2_workToRecut_4 : decode cX2_workToRecut 4 = .ok (.iload_n 1, 1) := by decide +kernel
theorem dX2_workToRecut_5 : decode cX2_workToRecut 5 = .ok (.iconst 1, 1) := by decide +kernel
theorem dX2_workToRecut_6 : decode cX2_workToRecut 6 = .ok (.invokevirtual 58, 3) := by decide +kernel
theorem dX2_workToRecut_9 : decode cX2_workToRecut 9 = .ok (.iconst 1, 1) := by decide +kernel
theorem dX2_workToRecut_10 : decode cX2_workToRecut 10 = .ok (.iadd, 1) := by decide +kernel
theorem dX2_workToRecut_11 : decode cX2_workToRecut 11 = .ok (.iconst 2, 1) := by decide +kernel
theorem dX2_workToRecut_12 : decode cX2_workToRecut 12 = .ok (.idiv, 1) := by decide +kernel
theorem dX2_workToRecut_13 : decode cX2_workToRecut 13 = .ok (.ireturn, 1) := by decide +kernel
theorem dX2_isSmaller_0 : decode cX2_isSmaller 0 = .ok (.aload_n 0, 1) := by decide +kernel
theorem dX2_isSmaller_1 : decode cX2_isSmaller 1 = .ok (.getfield 14, 3) := by decide +kernel
theorem dX2_isSmaller_4 : decode cX2_isSmaller 4 = .ok (.iload_n 1, 1) := by decide +kernel
theorem dX2_isSmaller_5 : decode cX2_isSmaller 5 = .ok (.iconst 0, 1) := by decide +kernel
theorem dX2_isSmaller_6 : decode cX2_isSmaller 6 = .ok (.invokevirtual 58, 3) := by decide +kernel
theorem dX2_isSmaller_9 : decode cX2_isSmaller 9 = .ok (.aload_n 0, 1) := by decide +kernel
theorem dX2_isSmaller_10 : decode cX2_isSmaller 10 = .ok (.getfield 14, 3) := by decide +kernel
theorem dX2_isSmaller_13 : decode cX2_isSmaller 13 = .ok (.iload_n 2, 1) := by decide +kernel
theorem dX2_isSmaller_14 : decode cX2_isSmaller 14 = .ok (.iconst 0, 1) := by decide +kernel
theorem dX2_isSmaller_15 : decode cX2_isSmaller 15 = .ok (.invokevirtual 58, 3) := by decide +kernel
theorem dX2_isSmaller_18 : decode cX2_isSmaller 18 = .ok (.if_icmp .ge 7, 3) := by decide +kernel
theorem dX2_isSmaller_21 : decode cX2_isSmaller 21 = .ok (.iconst 1, 1) := by decide +kernel
theorem dX2_isSmaller_22 : decode cX2_isSmaller 22 = .ok (.goto 4, 3) := by decide +kernel
theorem dX2_isSmaller_25 : decode cX2_isSmaller 25 = .ok (.iconst 0, 1) := by decide +kernel
theorem dX2_isSmaller_26 : decode cX2_isSmaller 26 = .ok (.ireturn, 1) := by decide +kernel
theorem dX2_mayRecut_0 : decode cX2_mayRecut 0 = .ok (.aload_n 0, 1) := by decide +kernel
theorem dX2_mayRecut_1 : decode cX2_mayRecut 1 = .ok (.getfield 20, 3) := by decide +kernel
theorem dX2_mayRecut_4 : decode cX2_mayRecut 4 = .ok (.iload_n 1, 1) := by decide +kernel
theorem dX2_mayRecut_5 : decode cX2_mayRecut 5 = .ok (.invokevirtual 77, 3) := by decide +kernel
theorem dX2_mayRecut_8 : decode cX2_mayRecut 8 = .ok (.ifCond .eq 76, 3) := by decide +kernel
theorem dX2_mayRecut_11 : decode cX2_mayRecut 11 = .ok (.aload_n 0, 1) := by decide +kernel
theorem dX2_mayRecut_12 : decode cX2_mayRecut 12 = .ok (.getfield 23, 3) := by decide +kernel
theorem dX2_mayRecut_15 : decode cX2_mayRecut 15 = .ok (.iload_n 2, 1) := by decide +kernel
theorem dX2_mayRecut_16 : decode cX2_mayRecut 16 = .ok (.invokevirtual 77, 3) := by decide +kernel
theorem dX2_mayRecut_19 : decode cX2_mayRecut 19 = .ok (.ifCond .eq 65, 3) := by decide +kernel
theorem dX2_mayRecut_22 : decode cX2_mayRecut 22 = .ok (.aload_n 0, 1) := by decide +kernel
theorem dX2_mayRecut_23 : decode cX2_mayRecut 23 = .ok (.getfield 14, 3) := by decide +kernel
theorem dX2_mayRecut_26 : decode cX2_mayRecut 26 = .ok (.iload_n 3, 1) := by decide +kernel
theorem dX2_mayRecut_27 : decode cX2_mayRecut 27 = .ok (.invokevirtual 77, 3) := by decide +kernel
theorem dX2_mayRecut_30 : decode cX2_mayRecut 30 = .ok (.ifCond .eq 54, 3) := by decide +kernel
theorem dX2_mayRecut_33 : decode cX2_mayRecut 33 = .ok (.aload_n 0, 1) := by decide +kernel
theorem dX2_mayRecut_34 : decode cX2_mayRecut 34 = .ok (.getfield 23, 3) := by decide +kernel
theorem dX2_mayRecut_37 : decode cX2_mayRecut 37 = .ok (.iload_n 2, 1) := by decide +kernel
theorem dX2_mayRecut_38 : decode cX2_mayRecut 38 = .ok (.iconst 3, 1) := by decide +kernel
theorem dX2_mayRecut_39 : decode cX2_mayRecut 39 = .ok (.invokevirtual 58, 3) := by decide +kernel
theorem dX2_mayRecut_42 : decode cX2_mayRecut 42 = .ok (.iconst 2, 1) := by decide +kernel
theorem dX2_mayRecut_43 : decode cX2_mayRecut 43 = .ok (.if_icmp .ne 41, 3) := by decide +kernel
theorem dX2_mayRecut_46 : decode cX2_mayRecut 46 = .ok (.aload_n 0, 1) := by decide +kernel
theorem dX2_mayRecut_47 : decode cX2_mayRecut 47 = .ok (.iload_n 3, 1) := by decide +kernel
theorem dX2_mayRecut_48 : decode cX2_mayRecut 48 = .ok (.aload_n 0, 1) := by decide +kernel
theorem dX2_mayRecut_49 : decode cX2_mayRecut 49 = .ok (.getfield 23, 3) := by decide +kernel
theorem dX2_mayRecut_52 : decode cX2_mayRecut 52 = .ok (.iload_n 2, 1) := by decide +kernel
theorem dX2_mayRecut_53 : decode cX2_mayRecut 53 = .ok (.iconst 0, 1) := by decide +kernel
theorem dX2_mayRecut_54 : decode cX2_mayRecut 54 = .ok (.invokevirtual 58, 3) := by decide +kernel
theorem dX2_mayRecut_57 : decode cX2_mayRecut 57 = .ok (.invokevirtual 100, 3) := by decide +kernel
theorem dX2_mayRecut_60 : decode cX2_mayRecut 60 = .ok (.ifCond .eq 24, 3) := by decide +kernel
theorem dX2_mayRecut_63 : decode cX2_mayRecut 63 = .ok (.aload_n 0, 1) := by decide +kernel
theorem dX2_mayRecut_64 : decode cX2_mayRecut 64 = .ok (.getfield 20, 3) := by decide +kernel
theorem dX2_mayRecut_67 : decode cX2_mayRecut 67 = .ok (.iload_n 1, 1) := by decide +kernel
theorem dX2_mayRecut_68 : decode cX2_mayRecut 68 = .ok (.iconst 2, 1) := by decide +kernel
theorem dX2_mayRecut_69 : decode cX2_mayRecut 69 = .ok (.invokevirtual 58, 3) := by decide +kernel
theorem dX2_mayRecut_72 : decode cX2_mayRecut 72 = .ok (.aload_n 0, 1) := by decide +kernel
theorem dX2_mayRecut_73 : decode cX2_mayRecut 73 = .ok (.iload_n 3, 1) := by decide +kernel
theorem dX2_mayRecut_74 : decode cX2_mayRecut 74 = .ok (.invokevirtual 103, 3) := by decide +kernel
theorem dX2_mayRecut_77 : decode cX2_mayRecut 77 = .ok (.if_icmp .lt 7, 3) := by decide +kernel
theorem dX2_mayRecut_80 : decode cX2_mayRecut 80 = .ok (.iconst 1, 1) := by decide +kernel
theorem dX2_mayRecut_81 : decode cX2_mayRecut 81 = .ok (.goto 4, 3) := by decide +kernel
theorem dX2_mayRecut_84 : decode cX2_mayRecut 84 = .ok (.iconst 0, 1) := by decide +kernel
theorem dX2_mayRecut_85 : decode cX2_mayRecut 85 = .ok (.ireturn, 1) := by decide +kernel
theorem dX2_recutStone_0 : decode cX2_recutStone 0 = .ok (.aload_n 0, 1) := by decide +kernel
theorem dX2_recutStone_1 : decode cX2_recutStone 1 = .ok (.getfield 14, 3) := by decide +kernel
theorem dX2_recutStone_4 : decode cX2_recutStone 4 = .ok (.aload_n 0, 1) := by decide +kernel
theorem dX2_recutStone_5 : decode cX2_recutStone 5 = .ok (.getfield 23, 3) := by decide +kernel
theorem dX2_recutStone_8 : decode cX2_recutStone 8 = .ok (.iload_n 2, 1) := by decide +kernel
theorem dX2_recutStone_9 : decode cX2_recutStone 9 = .ok (.iconst 0, 1) := by decide +kernel
theorem dX2_recutStone_10 : decode cX2_recutStone 10 = .ok (.invokevirtual 58, 3) := by decide +kernel
theorem dX2_recutStone_13 : decode cX2_recutStone 13 = .ok (.iconst 0, 1) := by decide +kernel
theorem dX2_recutStone_14 : decode cX2_recutStone 14 = .ok (.invokevirtual 58, 3) := by decide +kernel
theorem dX2_recutStone_17 : decode cX2_recutStone 17 = .ok (.aload_n 0, 1) := by decide +kernel
theorem dX2_recutStone_18 : decode cX2_recutStone 18 = .ok (.getfield 14, 3) := by decide +kernel
theorem dX2_recutStone_21 : decode cX2_recutStone 21 = .ok (.iload_n 3, 1) := by decide +kernel
theorem dX2_recutStone_22 : decode cX2_recutStone 22 = .ok (.iconst 0, 1) := by decide +kernel
theorem dX2_recutStone_23 : decode cX2_recutStone 23 = .ok (.invokevirtual 58, 3) := by decide +kernel
theorem dX2_recutStone_26 : decode cX2_recutStone 26 = .ok (.isub, 1) := by decide +kernel
theorem dX2_recutStone_27 : decode cX2_recutStone 27 = .ok (.istore 4, 2) := by decide +kernel
theorem dX2_recutStone_29 : decode cX2_recutStone 29 = .ok (.iconst 0, 1) := by decide +kernel
theorem dX2_recutStone_30 : decode cX2_recutStone 30 = .ok (.aload_n 0, 1) := by decide +kernel
theorem dX2_recutStone_31 : decode cX2_recutStone 31 = .ok (.getfield 23, 3) := by decide +kernel
theorem dX2_recutStone_34 : decode cX2_recutStone 34 = .ok (.iload_n 2, 1) := by decide +kernel
theorem dX2_recutStone_35 : decode cX2_recutStone 35 = .ok (.iconst 2, 1) := by decide +kernel
theorem dX2_recutStone_36 : decode cX2_recutStone 36 = .ok (.invokevirtual 58, 3) := by decide +kernel
theorem dX2_recutStone_39 : decode cX2_recutStone 39 = .ok (.iload 4, 2) := by decide +kernel
theorem dX2_recutStone_41 : decode cX2_recutStone 41 = .ok (.isub, 1) := by decide +kernel
theorem dX2_recutStone_42 : decode cX2_recutStone 42 = .ok (.invokestatic 62, 3) := by decide +kernel
theorem dX2_recutStone_45 : decode cX2_recutStone 45 = .ok (.istore 5, 2) := by decide +kernel
theorem dX2_recutStone_47 : decode cX2_recutStone 47 = .ok (.aload_n 0, 1) := by decide +kernel
theorem dX2_recutStone_48 : decode cX2_recutStone 48 = .ok (.getfield 20, 3) := by decide +kernel
theorem dX2_recutStone_51 : decode cX2_recutStone 51 = .ok (.iload_n 1, 1) := by decide +kernel
theorem dX2_recutStone_52 : decode cX2_recutStone 52 = .ok (.iconst 2, 1) := by decide +kernel
theorem dX2_recutStone_53 : decode cX2_recutStone 53 = .ok (.aload_n 0, 1) := by decide +kernel
theorem dX2_recutStone_54 : decode cX2_recutStone 54 = .ok (.iload_n 3, 1) := by decide +kernel
theorem dX2_recutStone_55 : decode cX2_recutStone 55 = .ok (.invokevirtual 103, 3) := by decide +kernel
theorem dX2_recutStone_58 : decode cX2_recutStone 58 = .ok (.ineg, 1) := by decide +kernel
theorem dX2_recutStone_59 : decode cX2_recutStone 59 = .ok (.invokevirtual 89, 3) := by decide +kernel
theorem dX2_recutStone_62 : decode cX2_recutStone 62 = .ok (.aload_n 0, 1) := by decide +kernel
theorem dX2_recutStone_63 : decode cX2_recutStone 63 = .ok (.getfield 23, 3) := by decide +kernel
theorem dX2_recutStone_66 : decode cX2_recutStone 66 = .ok (.iload_n 2, 1) := by decide +kernel
theorem dX2_recutStone_67 : decode cX2_recutStone 67 = .ok (.iconst 0, 1) := by decide +kernel
theorem dX2_recutStone_68 : decode cX2_recutStone 68 = .ok (.iload_n 3, 1) := by decide +kernel
theorem dX2_recutStone_69 : decode cX2_recutStone 69 = .ok (.invokevirtual 73, 3) := by decide +kernel
theorem dX2_recutStone_72 : decode cX2_recutStone 72 = .ok (.aload_n 0, 1) := by decide +kernel
theorem dX2_recutStone_73 : decode cX2_recutStone 73 = .ok (.getfield 23, 3) := by decide +kernel
theorem dX2_recutStone_76 : decode cX2_recutStone 76 = .ok (.iload_n 2, 1) := by decide +kernel
theorem dX2_recutStone_77 : decode cX2_recutStone 77 = .ok (.iconst 1, 1) := by decide +kernel
theorem dX2_recutStone_78 : decode cX2_recutStone 78 = .ok (.iload_n 1, 1) := by decide +kernel
theorem dX2_recutStone_79 : decode cX2_recutStone 79 = .ok (.invokevirtual 73, 3) := by decide +kernel
theorem dX2_recutStone_82 : decode cX2_recutStone 82 = .ok (.aload_n 0, 1) := by decide +kernel
theorem dX2_recutStone_83 : decode cX2_recutStone 83 = .ok (.getfield 23, 3) := by decide +kernel
theorem dX2_recutStone_86 : decode cX2_recutStone 86 = .ok (.iload_n 2, 1) := by decide +kernel
theorem dX2_recutStone_87 : decode cX2_recutStone 87 = .ok (.iconst 2, 1) := by decide +kernel
theorem dX2_recutStone_88 : decode cX2_recutStone 88 = .ok (.iload 5, 2) := by decide +kernel
theorem dX2_recutStone_90 : decode cX2_recutStone 90 = .ok (.invokevirtual 73, 3) := by decide +kernel
theorem dX2_recutStone_93 : decode cX2_recutStone 93 = .ok (.aload_n 0, 1) := by decide +kernel
theorem dX2_recutStone_94 : decode cX2_recutStone 94 = .ok (.getfield 23, 3) := by decide +kernel
theorem dX2_recutStone_97 : decode cX2_recutStone 97 = .ok (.iload_n 2, 1) := by decide +kernel
theorem dX2_recutStone_98 : decode cX2_recutStone 98 = .ok (.iconst 3, 1) := by decide +kernel
theorem dX2_recutStone_99 : decode cX2_recutStone 99 = .ok (.iconst 0, 1) := by decide +kernel
theorem dX2_recutStone_100 : decode cX2_recutStone 100 = .ok (.invokevirtual 73, 3) := by decide +kernel
theorem dX2_recutStone_103 : decode cX2_recutStone 103 = .ok (.aload_n 0, 1) := by decide +kernel
theorem dX2_recutStone_104 : decode cX2_recutStone 104 = .ok (.getfield 23, 3) := by decide +kernel
theorem dX2_recutStone_107 : decode cX2_recutStone 107 = .ok (.iload_n 2, 1) := by decide +kernel
theorem dX2_recutStone_108 : decode cX2_recutStone 108 = .ok (.iconst 4, 1) := by decide +kernel
theorem dX2_recutStone_109 : decode cX2_recutStone 109 = .ok (.iconst 1, 1) := by decide +kernel
theorem dX2_recutStone_110 : decode cX2_recutStone 110 = .ok (.invokevirtual 89, 3) := by decide +kernel
theorem dX2_recutStone_113 : decode cX2_recutStone 113 = .ok (.iload 5, 2) := by decide +kernel
theorem dX2_recutStone_115 : decode cX2_recutStone 115 = .ok (.ireturn, 1) := by decide +kernel
theorem dX2_mayScrap_0 : decode cX2_mayScrap 0 = .ok (.aload_n 0, 1) := by decide +kernel
theorem dX2_mayScrap_1 : decode cX2_mayScrap 1 = .ok (.getfield 23, 3) := by decide +kernel
theorem dX2_mayScrap_4 : decode cX2_mayScrap 4 = .ok (.iload_n 1, 1) := by decide +kernel
theorem dX2_mayScrap_5 : decode cX2_mayScrap 5 = .ok (.invokevirtual 77, 3) := by decide +kernel
theorem dX2_mayScrap_8 : decode cX2_mayScrap 8 = .ok (.ifCond .eq 20, 3) := by decide +kernel
theorem dX2_mayScrap_11 : decode cX2_mayScrap 11 = .ok (.aload_n 0, 1) := by decide +kernel
theorem dX2_mayScrap_12 : decode cX2_mayScrap 12 = .ok (.getfield 23, 3) := by decide +kernel
theorem dX2_mayScrap_15 : decode cX2_mayScrap 15 = .ok (.iload_n 1, 1) := by decide +kernel
theorem dX2_mayScrap_16 : decode cX2_mayScrap 16 = .ok (.iconst 3, 1) := by decide +kernel
theorem dX2_mayScrap_17 : decode cX2_mayScrap 17 = .ok (.invokevirtual 58, 3) := by decide +kernel
theorem dX2_mayScrap_20 : decode cX2_mayScrap 20 = .ok (.iconst 2, 1) := by decide +kernel
theorem dX2_mayScrap_21 : decode cX2_mayScrap 21 = .ok (.if_icmp .ne 7, 3) := by decide +kernel
theorem dX2_mayScrap_24 : decode cX2_mayScrap 24 = .ok (.iconst 1, 1) := by decide +kernel
theorem dX2_mayScrap_25 : decode cX2_mayScrap 25 = .ok (.goto 4, 3) := by decide +kernel
theorem dX2_mayScrap_28 : decode cX2_mayScrap 28 = .ok (.iconst 0, 1) := by decide +kernel
theorem dX2_mayScrap_29 : decode cX2_mayScrap 29 = .ok (.ireturn, 1) := by decide +kernel
theorem dX2_scrapStone_0 : decode cX2_scrapStone 0 = .ok (.aload_n 0, 1) := by decide +kernel
theorem dX2_scrapStone_1 : decode cX2_scrapStone 1 = .ok (.getfield 23, 3) := by decide +kernel
theorem dX2_scrapStone_4 : decode cX2_scrapStone 4 = .ok (.iload_n 1, 1) := by decide +kernel
theorem dX2_scrapStone_5 : decode cX2_scrapStone 5 = .ok (.iconst 3, 1) := by decide +kernel
theorem dX2_scrapStone_6 : decode cX2_scrapStone 6 = .ok (.iconst 4, 1) := by decide +kernel
theorem dX2_scrapStone_7 : decode cX2_scrapStone 7 = .ok (.invokevirtual 73, 3) := by decide +kernel
theorem dX2_scrapStone_10 : decode cX2_scrapStone 10 = .ok (.aload_n 0, 1) := by decide +kernel
theorem dX2_scrapStone_11 : decode cX2_scrapStone 11 = .ok (.getfield 23, 3) := by decide +kernel
theorem dX2_scrapStone_14 : decode cX2_scrapStone 14 = .ok (.iconst 3, 1) := by decide +kernel
theorem dX2_scrapStone_15 : decode cX2_scrapStone 15 = .ok (.iconst 4, 1) := by decide +kernel
theorem dX2_scrapStone_16 : decode cX2_scrapStone 16 = .ok (.invokevirtual 106, 3) := by decide +kernel
theorem dX2_scrapStone_19 : decode cX2_scrapStone 19 = .ok (.ireturn, 1) := by decide +kernel
theorem dX2_setStone_0 : decode cX2_setStone 0 = .ok (.aload_n 0, 1) := by decide +kernel
theorem dX2_setStone_1 : decode cX2_setStone 1 = .ok (.getfield 23, 3) := by decide +kernel
theorem dX2_setStone_4 : decode cX2_setStone 4 = .ok (.iload_n 1, 1) := by decide +kernel
theorem dX2_setStone_5 : decode cX2_setStone 5 = .ok (.iconst 3, 1) := by decide +kernel
theorem dX2_setStone_6 : decode cX2_setStone 6 = .ok (.iconst 3, 1) := by decide +kernel
theorem dX2_setStone_7 : decode cX2_setStone 7 = .ok (.invokevirtual 73, 3) := by decide +kernel
theorem dX2_setStone_10 : decode cX2_setStone 10 = .ok (.aload_n 0, 1) := by decide +kernel
theorem dX2_setStone_11 : decode cX2_setStone 11 = .ok (.getfield 23, 3) := by decide +kernel
theorem dX2_setStone_14 : decode cX2_setStone 14 = .ok (.iconst 0, 1) := by decide +kernel
theorem dX2_setStone_15 : decode cX2_setStone 15 = .ok (.aload_n 0, 1) := by decide +kernel
theorem dX2_setStone_16 : decode cX2_setStone 16 = .ok (.getfield 23, 3) := by decide +kernel
theorem dX2_setStone_19 : decode cX2_setStone 19 = .ok (.iload_n 1, 1) := by decide +kernel
theorem dX2_setStone_20 : decode cX2_setStone 20 = .ok (.iconst 0, 1) := by decide +kernel
theorem dX2_setStone_21 : decode cX2_setStone 21 = .ok (.invokevirtual 58, 3) := by decide +kernel
theorem dX2_setStone_24 : decode cX2_setStone 24 = .ok (.iconst 3, 1) := by decide +kernel
theorem dX2_setStone_25 : decode cX2_setStone 25 = .ok (.iconst 3, 1) := by decide +kernel
theorem dX2_setStone_26 : decode cX2_setStone 26 = .ok (.invokevirtual 54, 3) := by decide +kernel
theorem dX2_setStone_29 : decode cX2_setStone 29 = .ok (.ireturn, 1) := by decide +kernel
theorem dX2_payAll_0 : decode cX2_payAll 0 = .ok (.aload_n 0, 1) := by decide +kernel
theorem dX2_payAll_1 : decode cX2_payAll 1 = .ok (.getfield 20, 3) := by decide +kernel
theorem dX2_payAll_4 : decode cX2_payAll 4 = .ok (.iconst 3, 1) := by decide +kernel
theorem dX2_payAll_5 : decode cX2_payAll 5 = .ok (.invokevirtual 109, 3) := by decide +kernel
theorem dX2_payAll_8 : decode cX2_payAll 8 = .ok (.istore_n 1, 1) := by decide +kernel
theorem dX2_payAll_9 : decode cX2_payAll 9 = .ok (.iconst 0, 1) := by decide +kernel
theorem dX2_payAll_10 : decode cX2_payAll 10 = .ok (.istore_n 2, 1) := by decide +kernel
theorem dX2_payAll_11 : decode cX2_payAll 11 = .ok (.iload_n 2, 1) := by decide +kernel
theorem dX2_payAll_12 : decode cX2_payAll 12 = .ok (.aload_n 0, 1) := by decide +kernel
theorem dX2_payAll_13 : decode cX2_payAll 13 = .ok (.getfield 20, 3) := by decide +kernel
theorem dX2_payAll_16 : decode cX2_payAll 16 = .ok (.invokevirtual 50, 3) := by decide +kernel
theorem dX2_payAll_19 : decode cX2_payAll 19 = .ok (.if_icmp .ge 19, 3) := by decide +kernel
theorem dX2_payAll_22 : decode cX2_payAll 22 = .ok (.aload_n 0, 1) := by decide +kernel
theorem dX2_payAll_23 : decode cX2_payAll 23 = .ok (.getfield 20, 3) := by decide +kernel
theorem dX2_payAll_26 : decode cX2_payAll 26 = .ok (.iload_n 2, 1) := by decide +kernel
theorem dX2_payAll_27 : decode cX2_payAll 27 = .ok (.iconst 3, 1) := by decide +kernel
theorem dX2_payAll_28 : decode cX2_payAll 28 = .ok (.iconst 0, 1) := by decide +kernel
theorem dX2_payAll_29 : decode cX2_payAll 29 = .ok (.invokevirtual 73, 3) := by decide +kernel
theorem dX2_payAll_32 : decode cX2_payAll 32 = .ok (.iinc 2 1, 3) := by decide +kernel
theorem dX2_payAll_35 : decode cX2_payAll 35 = .ok (.goto (-24), 3) := by decide +kernel
theorem dX2_payAll_38 : decode cX2_payAll 38 = .ok (.aload_n 0, 1) := by decide +kernel
theorem dX2_payAll_39 : decode cX2_payAll 39 = .ok (.dup, 1) := by decide +kernel
theorem dX2_payAll_40 : decode cX2_payAll 40 = .ok (.getfield 40, 3) := by decide +kernel
theorem dX2_payAll_43 : decode cX2_payAll 43 = .ok (.iload_n 1, 1) := by decide +kernel
theorem dX2_payAll_44 : decode cX2_payAll 44 = .ok (.iadd, 1) := by decide +kernel
theorem dX2_payAll_45 : decode cX2_payAll 45 = .ok (.putfield 40, 3) := by decide +kernel
theorem dX2_payAll_48 : decode cX2_payAll 48 = .ok (.iload_n 1, 1) := by decide +kernel
theorem dX2_payAll_49 : decode cX2_payAll 49 = .ok (.ireturn, 1) := by decide +kernel
theorem dX2_handOutWork_0 : decode cX2_handOutWork 0 = .ok (.iconst 0, 1) := by decide +kernel
theorem dX2_handOutWork_1 : decode cX2_handOutWork 1 = .ok (.istore_n 1, 1) := by decide +kernel
theorem dX2_handOutWork_2 : decode cX2_handOutWork 2 = .ok (.iload_n 1, 1) := by decide +kernel
theorem dX2_handOutWork_3 : decode cX2_handOutWork 3 = .ok (.aload_n 0, 1) := by decide +kernel
theorem dX2_handOutWork_4 : decode cX2_handOutWork 4 = .ok (.getfield 20, 3) := by decide +kernel
theorem dX2_handOutWork_7 : decode cX2_handOutWork 7 = .ok (.invokevirtual 50, 3) := by decide +kernel
theorem dX2_handOutWork_10 : decode cX2_handOutWork 10 = .ok (.if_icmp .ge 38, 3) := by decide +kernel
theorem dX2_handOutWork_13 : decode cX2_handOutWork 13 = .ok (.aload_n 0, 1) := by decide +kernel
theorem dX2_handOutWork_14 : decode cX2_handOutWork 14 = .ok (.getfield 20, 3) := by decide +kernel
theorem dX2_handOutWork_17 : decode cX2_handOutWork 17 = .ok (.iload_n 1, 1) := by decide +kernel
theorem dX2_handOutWork_18 : decode cX2_handOutWork 18 = .ok (.iconst 2, 1) := by decide +kernel
theorem dX2_handOutWork_19 : decode cX2_handOutWork 19 = .ok (.aload_n 0, 1) := by decide +kernel
theorem dX2_handOutWork_20 : decode cX2_handOutWork 20 = .ok (.getfield 36, 3) := by decide +kernel
theorem dX2_handOutWork_23 : decode cX2_handOutWork 23 = .ok (.ifCond .eq 7, 3) := by decide +kernel
theorem dX2_handOutWork_26 : decode cX2_handOutWork 26 = .ok (.iconst 0, 1) := by decide +kernel
theorem dX2_handOutWork_27 : decode cX2_handOutWork 27 = .ok (.goto 12, 3) := by decide +kernel
theorem dX2_handOutWork_30 : decode cX2_handOutWork 30 = .ok (.aload_n 0, 1) := by decide +kernel
theorem dX2_handOutWork_31 : decode cX2_handOutWork 31 = .ok (.getfield 20, 3) := by decide +kernel
theorem dX2_handOutWork_34 : decode cX2_handOutWork 34 = .ok (.iload_n 1, 1) := by decide +kernel
theorem dX2_handOutWork_35 : decode cX2_handOutWork 35 = .ok (.iconst 1, 1) := by decide +kernel
theorem dX2_handOutWork_36 : decode cX2_handOutWork 36 = .ok (.invokevirtual 58, 3) := by decide +kernel
theorem dX2_handOutWork_39 : decode cX2_handOutWork 39 = .ok (.invokevirtual 73, 3) := by decide +kernel
theorem dX2_handOutWork_42 : decode cX2_handOutWork 42 = .ok (.iinc 1 1, 3) := by decide +kernel
theorem dX2_handOutWork_45 : decode cX2_handOutWork 45 = .ok (.goto (-43), 3) := by decide +kernel
theorem dX2_handOutWork_48 : decode cX2_handOutWork 48 = .ok (.return_, 1) := by decide +kernel
theorem dX2_beginDay_0 : decode cX2_beginDay 0 = .ok (.aload_n 0, 1) := by decide +kernel
theorem dX2_beginDay_1 : decode cX2_beginDay 1 = .ok (.dup, 1) := by decide +kernel
theorem dX2_beginDay_2 : decode cX2_beginDay 2 = .ok (.getfield 33, 3) := by decide +kernel
theorem dX2_beginDay_5 : decode cX2_beginDay 5 = .ok (.iconst 1, 1) := by decide +kernel
theorem dX2_beginDay_6 : decode cX2_beginDay 6 = .ok (.iadd, 1) := by decide +kernel
theorem dX2_beginDay_7 : decode cX2_beginDay 7 = .ok (.putfield 33, 3) := by decide +kernel
theorem dX2_beginDay_10 : decode cX2_beginDay 10 = .ok (.aload_n 0, 1) := by decide +kernel
theorem dX2_beginDay_11 : decode cX2_beginDay 11 = .ok (.iload_n 1, 1) := by decide +kernel
theorem dX2_beginDay_12 : decode cX2_beginDay 12 = .ok (.putfield 36, 3) := by decide +kernel
theorem dX2_beginDay_15 : decode cX2_beginDay 15 = .ok (.aload_n 0, 1) := by decide +kernel
theorem dX2_beginDay_16 : decode cX2_beginDay 16 = .ok (.invokevirtual 112, 3) := by decide +kernel
theorem dX2_beginDay_19 : decode cX2_beginDay 19 = .ok (.iload_n 1, 1) := by decide +kernel
theorem dX2_beginDay_20 : decode cX2_beginDay 20 = .ok (.ifCond .eq 52, 3) := by decide +kernel
theorem dX2_beginDay_23 : decode cX2_beginDay 23 = .ok (.aload_n 0, 1) := by decide +kernel
theorem dX2_beginDay_24 : decode cX2_beginDay 24 = .ok (.dup, 1) := by decide +kernel
theorem dX2_beginDay_25 : decode cX2_beginDay 25 = .ok (.getfield 43, 3) := by decide +kernel
theorem dX2_beginDay_28 : decode cX2_beginDay 28 = .ok (.iconst 1, 1) := by decide +kernel
theorem dX2_beginDay_29 : decode cX2_beginDay 29 = .ok (.iadd, 1) := by decide +kernel
theorem dX2_beginDay_30 : decode cX2_beginDay 30 = .ok (.putfield 43, 3) := by decide +kernel
theorem dX2_beginDay_33 : decode cX2_beginDay 33 = .ok (.iconst 0, 1) := by decide +kernel
theorem dX2_beginDay_34 : decode cX2_beginDay 34 = .ok (.istore_n 2, 1) := by decide +kernel
theorem dX2_beginDay_35 : decode cX2_beginDay 35 = .ok (.iload_n 2, 1) := by decide +kernel
theorem dX2_beginDay_36 : decode cX2_beginDay 36 = .ok (.aload_n 0, 1) := by decide +kernel
theorem dX2_beginDay_37 : decode cX2_beginDay 37 = .ok (.getfield 20, 3) := by decide +kernel
theorem dX2_beginDay_40 : decode cX2_beginDay 40 = .ok (.invokevirtual 50, 3) := by decide +kernel
theorem dX2_beginDay_43 : decode cX2_beginDay 43 = .ok (.if_icmp .ge 29, 3) := by decide +kernel
theorem dX2_beginDay_46 : decode cX2_beginDay 46 = .ok (.aload_n 0, 1) := by decide +kernel
theorem dX2_beginDay_47 : decode cX2_beginDay 47 = .ok (.getfield 20, 3) := by decide +kernel
theorem dX2_beginDay_50 : decode cX2_beginDay 50 = .ok (.iload_n 2, 1) := by decide +kernel
theorem dX2_beginDay_51 : decode cX2_beginDay 51 = .ok (.iconst 3, 1) := by decide +kernel
theorem dX2_beginDay_52 : decode cX2_beginDay 52 = .ok (.iconst 2, 1) := by decide +kernel
theorem dX2_beginDay_53 : decode cX2_beginDay 53 = .ok (.aload_n 0, 1) := by decide +kernel
theorem dX2_beginDay_54 : decode cX2_beginDay 54 = .ok (.getfield 20, 3) := by decide +kernel
theorem dX2_beginDay_57 : decode cX2_beginDay 57 = .ok (.iload_n 2, 1) := by decide +kernel
theorem dX2_beginDay_58 : decode cX2_beginDay 58 = .ok (.iconst 0, 1) := by decide +kernel
theorem dX2_beginDay_59 : decode cX2_beginDay 59 = .ok (.invokevirtual 58, 3) := by decide +kernel
theorem dX2_beginDay_62 : decode cX2_beginDay 62 = .ok (.imul, 1) := by decide +kernel
theorem dX2_beginDay_63 : decode cX2_beginDay 63 = .ok (.invokevirtual 89, 3) := by decide +kernel
theorem dX2_beginDay_66 : decode cX2_beginDay 66 = .ok (.iinc 2 1, 3) := by decide +kernel
theorem dX2_beginDay_69 : decode cX2_beginDay 69 = .ok (.goto (-34), 3) := by decide +kernel
theorem dX2_beginDay_72 : decode cX2_beginDay 72 = .ok (.aload_n 0, 1) := by decide +kernel
theorem dX2_beginDay_73 : decode cX2_beginDay 73 = .ok (.getfield 33, 3) := by decide +kernel
theorem dX2_beginDay_76 : decode cX2_beginDay 76 = .ok (.ireturn, 1) := by decide +kernel
theorem dX2_courseForRecut_0 : decode cX2_courseForRecut 0 = .ok (.aload_n 0, 1) := by decide +kernel
theorem dX2_courseForRecut_1 : decode cX2_courseForRecut 1 = .ok (.getfield 23, 3) := by decide +kernel
theorem dX2_courseForRecut_4 : decode cX2_courseForRecut 4 = .ok (.iload_n 1, 1) := by decide +kernel
theorem dX2_courseForRecut_5 : decode cX2_courseForRecut 5 = .ok (.iconst 3, 1) := by decide +kernel
theorem dX2_courseForRecut_6 : decode cX2_courseForRecut 6 = .ok (.invokevirtual 58, 3) := by decide +kernel
theorem dX2_courseForRecut_9 : decode cX2_courseForRecut 9 = .ok (.iconst 2, 1) := by decide +kernel
theorem dX2_courseForRecut_10 : decode cX2_courseForRecut 10 = .ok (.if_icmp .eq 6, 3) := by decide +kernel
theorem dX2_courseForRecut_13 : decode cX2_courseForRecut 13 = .ok (.bipush (-9), 2) := by decide +kernel
theorem dX2_courseForRecut_15 : decode cX2_courseForRecut 15 = .ok (.ireturn, 1) := by decide +kernel
theorem dX2_courseForRecut_16 : decode cX2_courseForRecut 16 = .ok (.aload_n 0, 1) := by decide +kernel
theorem dX2_courseForRecut_17 : decode cX2_courseForRecut 17 = .ok (.getfield 23, 3) := by decide +kernel
theorem dX2_courseForRecut_20 : decode cX2_courseForRecut 20 = .ok (.iload_n 1, 1) := by decide +kernel
theorem dX2_courseForRecut_21 : decode cX2_courseForRecut 21 = .ok (.iconst 0, 1) := by decide +kernel
theorem dX2_courseForRecut_22 : decode cX2_courseForRecut 22 = .ok (.invokevirtual 58, 3) := by decide +kernel
theorem dX2_courseForRecut_25 : decode cX2_courseForRecut 25 = .ok (.istore_n 2, 1) := by decide +kernel
theorem dX2_courseForRecut_26 : decode cX2_courseForRecut 26 = .ok (.bipush (-9), 2) := by decide +kernel
theorem dX2_courseForRecut_28 : decode cX2_courseForRecut 28 = .ok (.istore_n 3, 1) := by decide +kernel
theorem dX2_courseForRecut_29 : decode cX2_courseForRecut 29 = .ok (.iconst 0, 1) := by decide +kernel
theorem dX2_courseForRecut_30 : decode cX2_courseForRecut 30 = .ok (.istore 4, 2) := by decide +kernel
theorem dX2_courseForRecut_32 : decode cX2_courseForRecut 32 = .ok (.iload 4, 2) := by decide +kernel
theorem dX2_courseForRecut_34 : decode cX2_courseForRecut 34 = .ok (.aload_n 0, 1) := by decide +kernel
theorem dX2_courseForRecut_35 : decode cX2_courseForRecut 35 = .ok (.getfield 14, 3) := by decide +kernel
theorem dX2_courseForRecut_38 : decode cX2_courseForRecut 38 = .ok (.invokevirtual 50, 3) := by decide +kernel
theorem dX2_courseForRecut_41 : decode cX2_courseForRecut 41 = .ok (.if_icmp .ge 47, 3) := by decide +kernel
theorem dX2_courseForRecut_44 : decode cX2_courseForRecut 44 = .ok (.aload_n 0, 1) := by decide +kernel
theorem dX2_courseForRecut_45 : decode cX2_courseForRecut 45 = .ok (.iload 4, 2) := by decide +kernel
theorem dX2_courseForRecut_47 : decode cX2_courseForRecut 47 = .ok (.iload_n 2, 1) := by decide +kernel
theorem dX2_courseForRecut_48 : decode cX2_courseForRecut 48 = .ok (.invokevirtual 100, 3) := by decide +kernel
theorem dX2_courseForRecut_51 : decode cX2_courseForRecut 51 = .ok (.ifCond .eq 31, 3) := by decide +kernel
theorem dX2_courseForRecut_54 : decode cX2_courseForRecut 54 = .ok (.aload_n 0, 1) := by decide +kernel
theorem dX2_courseForRecut_55 : decode cX2_courseForRecut 55 = .ok (.iload 4, 2) := by decide +kernel
theorem dX2_courseForRecut_57 : decode cX2_courseForRecut 57 = .ok (.invokevirtual 115, 3) := by decide +kernel
theorem dX2_courseForRecut_60 : decode cX2_courseForRecut 60 = .ok (.ifCond .le 22, 3) := by decide +kernel
theorem dX2_courseForRecut_63 : decode cX2_courseForRecut 63 = .ok (.iload_n 3, 1) := by decide +kernel
theorem dX2_courseForRecut_64 : decode cX2_courseForRecut 64 = .ok (.bipush (-9), 2) := by decide +kernel
theorem dX2_courseForRecut_66 : decode cX2_courseForRecut 66 = .ok (.if_icmp .eq 13, 3) := by decide +kernel
theorem dX2_courseForRecut_69 : decode cX2_courseForRecut 69 = .ok (.aload_n 0, 1) := by decide +kernel
theorem dX2_courseForRecut_70 : decode cX2_courseForRecut 70 = .ok (.iload_n 3, 1) := by decide +kernel
theorem dX2_courseForRecut_71 : decode cX2_courseForRecut 71 = .ok (.iload 4, 2) := by decide +kernel
theorem dX2_courseForRecut_73 : decode cX2_courseForRecut 73 = .ok (.invokevirtual 100, 3) := by decide +kernel
theorem dX2_courseForRecut_76 : decode cX2_courseForRecut 76 = .ok (.ifCond .eq 6, 3) := by decide +kernel
theorem dX2_courseForRecut_79 : decode cX2_courseForRecut 79 = .ok (.iload 4, 2) := by decide +kernel
theorem dX2_courseForRecut_81 : decode cX2_courseForRecut 81 = .ok (.istore_n 3, 1) := by decide +kernel
theorem dX2_courseForRecut_82 : decode cX2_courseForRecut 82 = .ok (.iinc 4 1, 3) := by decide +kernel
theorem dX2_courseForRecut_85 : decode cX2_courseForRecut 85 = .ok (.goto (-53), 3) := by decide +kernel
theorem dX2_courseForRecut_88 : decode cX2_courseForRecut 88 = .ok (.iload_n 3, 1) := by decide +kernel
theorem dX2_courseForRecut_89 : decode cX2_courseForRecut 89 = .ok (.ireturn, 1) := by decide +kernel
theorem dX2_cheapestFor_0 : decode cX2_cheapestFor 0 = .ok (.bipush (-9), 2) := by decide +kernel
theorem dX2_cheapestFor_2 : decode cX2_cheapestFor 2 = .ok (.istore_n 2, 1) := by decide +kernel
theorem dX2_cheapestFor_3 : decode cX2_cheapestFor 3 = .ok (.iconst 0, 1) := by decide +kernel
theorem dX2_cheapestFor_4 : decode cX2_cheapestFor 4 = .ok (.istore_n 3, 1) := by decide +kernel
theorem dX2_cheapestFor_5 : decode cX2_cheapestFor 5 = .ok (.iload_n 3, 1) := by decide +kernel
theorem dX2_cheapestFor_6 : decode cX2_cheapestFor 6 = .ok (.aload_n 0, 1) := by decide +kernel
theorem dX2_cheapestFor_7 : decode cX2_cheapestFor 7 = .ok (.getfield 20, 3) := by decide +kernel
theorem dX2_cheapestFor_10 : decode cX2_cheapestFor 10 = .ok (.invokevirtual 50, 3) := by decide +kernel
theorem dX2_cheapestFor_13 : decode cX2_cheapestFor 13 = .ok (.if_icmp .ge 47, 3) := by decide +kernel
theorem dX2_cheapestFor_16 : decode cX2_cheapestFor 16 = .ok (.aload_n 0, 1) := by decide +kernel
theorem dX2_cheapestFor_17 : decode cX2_cheapestFor 17 = .ok (.iload_n 3, 1) := by decide +kernel
theorem dX2_cheapestFor_18 : decode cX2_cheapestFor 18 = .ok (.iload_n 1, 1) := by decide +kernel
theorem dX2_cheapestFor_19 : decode cX2_cheapestFor 19 = .ok (.invokevirtual 81, 3) := by decide +kernel
theorem dX2_cheapestFor_22 : decode cX2_cheapestFor 22 = .ok (.ifCond .eq 32, 3) := by decide +kernel
theorem dX2_cheapestFor_25 : decode cX2_cheapestFor 25 = .ok (.iload_n 2, 1) := by decide +kernel
theorem dX2_cheapestFor_26 : decode cX2_cheapestFor 26 = .ok (.bipush (-9), 2) := by decide +kernel
theorem dX2_cheapestFor_28 : decode cX2_cheapestFor 28 = .ok (.if_icmp .eq 24, 3) := by decide +kernel
theorem dX2_cheapestFor_31 : decode cX2_cheapestFor 31 = .ok (.aload_n 0, 1) := by decide +kernel
theorem dX2_cheapestFor_32 : decode cX2_cheapestFor 32 = .ok (.getfield 20, 3) := by decide +kernel
theorem dX2_cheapestFor_35 : decode cX2_cheapestFor 35 = .ok (.iload_n 3, 1) := by decide +kernel
theorem dX2_cheapestFor_36 : decode cX2_cheapestFor 36 = .ok (.iconst 0, 1) := by decide +kernel
theorem dX2_cheapestFor_37 : decode cX2_cheapestFor 37 = .ok (.invokevirtual 58, 3) := by decide +kernel
theorem dX2_cheapestFor_40 : decode cX2_cheapestFor 40 = .ok (.aload_n 0, 1) := by decide +kernel
theorem dX2_cheapestFor_41 : decode cX2_cheapestFor 41 = .ok (.getfield 20, 3) := by decide +kernel
theorem dX2_cheapestFor_44 : decode cX2_cheapestFor 44 = .ok (.iload_n 2, 1) := by decide +kernel
theorem dX2_cheapestFor_45 : decode cX2_cheapestFor 45 = .ok (.iconst 0, 1) := by decide +kernel
theorem dX2_cheapestFor_46 : decode cX2_cheapestFor 46 = .ok (.invokevirtual 58, 3) := by decide +kernel
theorem dX2_cheapestFor_49 : decode cX2_cheapestFor 49 = .ok (.if_icmp .ge 5, 3) := by decide +kernel
theorem dX2_cheapestFor_52 : decode cX2_cheapestFor 52 = .ok (.iload_n 3, 1) := by decide +kernel
theorem dX2_cheapestFor_53 : decode cX2_cheapestFor 53 = .ok (.istore_n 2, 1) := by decide +kernel
theorem dX2_cheapestFor_54 : decode cX2_cheapestFor 54 = .ok (.iinc 3 1, 3) := by decide +kernel
theorem dX2_cheapestFor_57 : decode cX2_cheapestFor 57 = .ok (.goto (-52), 3) := by decide +kernel
theorem dX2_cheapestFor_60 : decode cX2_cheapestFor 60 = .ok (.iload_n 2, 1) := by decide +kernel
theorem dX2_cheapestFor_61 : decode cX2_cheapestFor 61 = .ok (.ireturn, 1) := by decide +kernel
theorem dX2_smallestRate_0 : decode cX2_smallestRate 0 = .ok (.bipush 9, 2) := by decide +kernel
theorem dX2_smallestRate_2 : decode cX2_smallestRate 2 = .ok (.istore_n 1, 1) := by decide +kernel
theorem dX2_smallestRate_3 : decode cX2_smallestRate 3 = .ok (.iconst 0, 1) := by decide +kernel
theorem dX2_smallestRate_4 : decode cX2_smallestRate 4 = .ok (.istore_n 2, 1) := by decide +kernel
theorem dX2_smallestRate_5 : decode cX2_smallestRate 5 = .ok (.iload_n 2, 1) := by decide +kernel
theorem dX2_smallestRate_6 : decode cX2_smallestRate 6 = .ok (.aload_n 0, 1) := by decide +kernel
theorem dX2_smallestRate_7 : decode cX2_smallestRate 7 = .ok (.getfield 20, 3) := by decide +kernel
theorem dX2_smallestRate_10 : decode cX2_smallestRate 10 = .ok (.invokevirtual 50, 3) := by decide +kernel
theorem dX2_smallestRate_13 : decode cX2_smallestRate 13 = .ok (.if_icmp .ge 23, 3) := by decide +kernel
theorem dX2_smallestRate_16 : decode cX2_smallestRate 16 = .ok (.iload_n 1, 1) := by decide +kernel
theorem dX2_smallestRate_17 : decode cX2_smallestRate 17 = .ok (.aload_n 0, 1) := by decide +kernel
theorem dX2_smallestRate_18 : decode cX2_smallestRate 18 = .ok (.getfield 20, 3) := by decide +kernel
theorem dX2_smallestRate_21 : decode cX2_smallestRate 21 = .ok (.iload_n 2, 1) := by decide +kernel
theorem dX2_smallestRate_22 : decode cX2_smallestRate 22 = .ok (.iconst 0, 1) := by decide +kernel
theorem dX2_smallestRate_23 : decode cX2_smallestRate 23 = .ok (.invokevirtual 58, 3) := by decide +kernel
theorem dX2_smallestRate_26 : decode cX2_smallestRate 26 = .ok (.invokestatic 118, 3) := by decide +kernel
theorem dX2_smallestRate_29 : decode cX2_smallestRate 29 = .ok (.istore_n 1, 1) := by decide +kernel
theorem dX2_smallestRate_30 : decode cX2_smallestRate 30 = .ok (.iinc 2 1, 3) := by decide +kernel
theorem dX2_smallestRate_33 : decode cX2_smallestRate 33 = .ok (.goto (-28), 3) := by decide +kernel
theorem dX2_smallestRate_36 : decode cX2_smallestRate 36 = .ok (.iload_n 1, 1) := by decide +kernel
theorem dX2_smallestRate_37 : decode cX2_smallestRate 37 = .ok (.ireturn, 1) := by decide +kernel
theorem dX2_costOfLacking_0 : decode cX2_costOfLacking 0 = .ok (.iconst 0, 1) := by decide +kernel
theorem dX2_costOfLacking_1 : decode cX2_costOfLacking 1 = .ok (.istore_n 1, 1) := by decide +kernel
theorem dX2_costOfLacking_2 : decode cX2_costOfLacking 2 = .ok (.iconst 0, 1) := by decide +kernel
theorem dX2_costOfLacking_3 : decode cX2_costOfLacking 3 = .ok (.istore_n 2, 1) := by decide +kernel
theorem dX2_costOfLacking_4 : decode cX2_costOfLacking 4 = .ok (.iload_n 2, 1) := by decide +kernel
theorem dX2_costOfLacking_5 : decode cX2_costOfLacking 5 = .ok (.aload_n 0, 1) := by decide +kernel
theorem dX2_costOfLacking_6 : decode cX2_costOfLacking 6 = .ok (.getfield 14, 3) := by decide +kernel
theorem dX2_costOfLacking_9 : decode cX2_costOfLacking 9 = .ok (.invokevirtual 50, 3) := by decide +kernel
theorem dX2_costOfLacking_12 : decode cX2_costOfLacking 12 = .ok (.if_icmp .ge 27, 3) := by decide +kernel
theorem dX2_costOfLacking_15 : decode cX2_costOfLacking 15 = .ok (.iload_n 1, 1) := by decide +kernel
theorem dX2_costOfLacking_16 : decode cX2_costOfLacking 16 = .ok (.aload_n 0, 1) := by decide +kernel
theorem dX2_costOfLacking_17 : decode cX2_costOfLacking 17 = .ok (.iload_n 2, 1) := by decide +kernel
theorem dX2_costOfLacking_18 : decode cX2_costOfLacking 18 = .ok (.invokevirtual 115, 3) := by decide +kernel
theorem dX2_costOfLacking_21 : decode cX2_costOfLacking 21 = .ok (.aload_n 0, 1) := by decide +kernel
theorem dX2_costOfLacking_22 : decode cX2_costOfLacking 22 = .ok (.getfield 14, 3) := by decide +kernel
theorem dX2_costOfLacking_25 : decode cX2_costOfLacking 25 = .ok (.iload_n 2, 1) := by decide +kernel
theorem dX2_costOfLacking_26 : decode cX2_costOfLacking 26 = .ok (.iconst 1, 1) := by decide +kernel
theorem dX2_costOfLacking_27 : decode cX2_costOfLacking 27 = .ok (.invokevirtual 58, 3) := by decide +kernel
theorem dX2_costOfLacking_30 : decode cX2_costOfLacking 30 = .ok (.imul, 1) := by decide +kernel
theorem dX2_costOfLacking_31 : decode cX2_costOfLacking 31 = .ok (.iadd, 1) := by decide +kernel
theorem dX2_costOfLacking_32 : decode cX2_costOfLacking 32 = .ok (.istore_n 1, 1) := by decide +kernel
theorem dX2_costOfLacking_33 : decode cX2_costOfLacking 33 = .ok (.iinc 2 1, 3) := by decide +kernel
theorem dX2_costOfLacking_36 : decode cX2_costOfLacking 36 = .ok (.goto (-32), 3) := by decide +kernel
theorem dX2_costOfLacking_39 : decode cX2_costOfLacking 39 = .ok (.iload_n 1, 1) := by decide +kernel
theorem dX2_costOfLacking_40 : decode cX2_costOfLacking 40 = .ok (.ifCond .le 16, 3) := by decide +kernel
theorem dX2_costOfLacking_43 : decode cX2_costOfLacking 43 = .ok (.aload_n 0, 1) := by decide +kernel
theorem dX2_costOfLacking_44 : decode cX2_costOfLacking 44 = .ok (.getfield 20, 3) := by decide +kernel
theorem dX2_costOfLacking_47 : decode cX2_costOfLacking 47 = .ok (.invokevirtual 50, 3) := by decide +kernel
theorem dX2_costOfLacking_50 : decode cX2_costOfLacking 50 = .ok (.ifCond .ne 6, 3) := by decide +kernel
theorem dX2_costOfLacking_53 : decode cX2_costOfLacking 53 = .ok (.bipush (-9), 2) := by decide +kernel
theorem dX2_costOfLacking_55 : decode cX2_costOfLacking 55 = .ok (.ireturn, 1) := by decide +kernel
theorem dX2_costOfLacking_56 : decode cX2_costOfLacking 56 = .ok (.iload_n 1, 1) := by decide +kernel
theorem dX2_costOfLacking_57 : decode cX2_costOfLacking 57 = .ok (.aload_n 0, 1) := by decide +kernel
theorem dX2_costOfLacking_58 : decode cX2_costOfLacking 58 = .ok (.invokevirtual 121, 3) := by decide +kernel
theorem dX2_costOfLacking_61 : decode cX2_costOfLacking 61 = .ok (.imul, 1) := by decide +kernel
theorem dX2_costOfLacking_62 : decode cX2_costOfLacking 62 = .ok (.ireturn, 1) := by decide +kernel
theorem dX2_settable_0 : decode cX2_settable 0 = .ok (.aload_n 0, 1) := by decide +kernel
theorem dX2_settable_1 : decode cX2_settable 1 = .ok (.getfield 36, 3) := by decide +kernel
theorem dX2_settable_4 : decode cX2_settable 4 = .ok (.ifCond .eq 5, 3) := by decide +kernel
theorem dX2_settable_7 : decode cX2_settable 7 = .ok (.iconst 0, 1) := by decide +kernel
theorem dX2_settable_8 : decode cX2_settable 8 = .ok (.ireturn, 1) := by decide +kernel
theorem dX2_settable_9 : decode cX2_settable 9 = .ok (.iconst 0, 1) := by decide +kernel
theorem dX2_settable_10 : decode cX2_settable 10 = .ok (.istore_n 1, 1) := by decide +kernel
theorem dX2_settable_11 : decode cX2_settable 11 = .ok (.iconst 0, 1) := by decide +kernel
theorem dX2_settable_12 : decode cX2_settable 12 = .ok (.istore_n 2, 1) := by decide +kernel
theorem dX2_settable_13 : decode cX2_settable 13 = .ok (.iload_n 2, 1) := by decide +kernel
theorem dX2_settable_14 : decode cX2_settable 14 = .ok (.aload_n 0, 1) := by decide +kernel
theorem dX2_settable_15 : decode cX2_settable 15 = .ok (.getfield 14, 3) := by decide +kernel
theorem dX2_settable_18 : decode cX2_settable 18 = .ok (.invokevirtual 50, 3) := by decide +kernel
theorem dX2_settable_21 : decode cX2_settable 21 = .ok (.if_icmp .ge 61, 3) := by decide +kernel
theorem dX2_settable_24 : decode cX2_settable 24 = .ok (.aload_n 0, 1) := by decide +kernel
theorem dX2_settable_25 : decode cX2_settable 25 = .ok (.getfield 14, 3) := by decide +kernel
theorem dX2_settable_28 : decode cX2_settable 28 = .ok (.iload_n 2, 1) := by decide +kernel
theorem dX2_settable_29 : decode cX2_settable 29 = .ok (.iconst 2, 1) := by decide +kernel
theorem dX2_settable_30 : decode cX2_settable 30 = .ok (.invokevirtual 58, 3) := by decide +kernel
theorem dX2_settable_33 : decode cX2_settable 33 = .ok (.aload_n 0, 1) := by decide +kernel
theorem dX2_settable_34 : decode cX2_settable 34 = .ok (.getfield 23, 3) := by decide +kernel
theorem dX2_settable_37 : decode cX2_settable 37 = .ok (.iconst 0, 1) := by decide +kernel
theorem dX2_settable_38 : decode cX2_settable 38 = .ok (.iload_n 2, 1) := by decide +kernel
theorem dX2_settable_39 : decode cX2_settable 39 = .ok (.iconst 3, 1) := by decide +kernel
theorem dX2_settable_40 : decode cX2_settable 40 = .ok (.iconst 3, 1) := by decide +kernel
theorem dX2_settable_41 : decode cX2_settable 41 = .ok (.invokevirtual 54, 3) := by decide +kernel
theorem dX2_settable_44 : decode cX2_settable 44 = .ok (.isub, 1) := by decide +kernel
theorem dX2_settable_45 : decode cX2_settable 45 = .ok (.istore_n 3, 1) := by decide +kernel
theorem dX2_settable_46 : decode cX2_settable 46 = .ok (.aload_n 0, 1) := by decide +kernel
theorem dX2_settable_47 : decode cX2_settable 47 = .ok (.getfield 23, 3) := by decide +kernel
theorem dX2_settable_50 : decode cX2_settable 50 = .ok (.iconst 0, 1) := by decide +kernel
theorem dX2_settable_51 : decode cX2_settable 51 = .ok (.iload_n 2, 1) := by decide +kernel
theorem dX2_settable_52 : decode cX2_settable 52 = .ok (.iconst 3, 1) := by decide +kernel
theorem dX2_settable_53 : decode cX2_settable 53 = .ok (.iconst 1, 1) := by decide +kernel
theorem dX2_settable_54 : decode cX2_settable 54 = .ok (.invokevirtual 54, 3) := by decide +kernel
theorem dX2_settable_57 : decode cX2_settable 57 = .ok (.istore 4, 2) := by decide +kernel
theorem dX2_settable_59 : decode cX2_settable 59 = .ok (.iload_n 1, 1) := by decide +kernel
theorem dX2_settable_60 : decode cX2_settable 60 = .ok (.iload_n 3, 1) := by decide +kernel
theorem dX2_settable_61 : decode cX2_settable 61 = .ok (.iload 4, 2) := by decide +kernel
theorem dX2_settable_63 : decode cX2_settable 63 = .ok (.invokestatic 118, 3) := by decide +kernel
theorem dX2_settable_66 : decode cX2_settable 66 = .ok (.iadd, 1) := by decide +kernel
theorem dX2_settable_67 : decode cX2_settable 67 = .ok (.istore_n 1, 1) := by decide +kernel
theorem dX2_settable_68 : decode cX2_settable 68 = .ok (.iload 4, 2) := by decide +kernel
theorem dX2_settable_70 : decode cX2_settable 70 = .ok (.iload_n 3, 1) := by decide +kernel
theorem dX2_settable_71 : decode cX2_settable 71 = .ok (.if_icmp .ge 5, 3) := by decide +kernel
theorem dX2_settable_74 : decode cX2_settable 74 = .ok (.iload_n 1, 1) := by decide +kernel
theorem dX2_settable_75 : decode cX2_settable 75 = .ok (.ireturn, 1) := by decide +kernel
theorem dX2_settable_76 : decode cX2_settable 76 = .ok (.iinc 2 1, 3) := by decide +kernel
theorem dX2_settable_79 : decode cX2_settable 79 = .ok (.goto (-66), 3) := by decide +kernel
theorem dX2_settable_82 : decode cX2_settable 82 = .ok (.iload_n 1, 1) := by decide +kernel
theorem dX2_settable_83 : decode cX2_settable 83 = .ok (.ireturn, 1) := by decide +kernel
theorem dX2_earnings_0 : decode cX2_earnings 0 = .ok (.iconst 0, 1) := by decide +kernel
theorem dX2_earnings_1 : decode cX2_earnings 1 = .ok (.istore_n 2, 1) := by decide +kernel
theorem dX2_earnings_2 : decode cX2_earnings 2 = .ok (.iconst 0, 1) := by decide +kernel
theorem dX2_earnings_3 : decode cX2_earnings 3 = .ok (.istore_n 3, 1) := by decide +kernel
theorem dX2_earnings_4 : decode cX2_earnings 4 = .ok (.iload_n 3, 1) := by decide +kernel
theorem dX2_earnings_5 : decode cX2_earnings 5 = .ok (.aload_n 0, 1) := by decide +kernel
theorem dX2_earnings_6 : decode cX2_earnings 6 = .ok (.getfield 23, 3) := by decide +kernel
theorem dX2_earnings_9 : decode cX2_earnings 9 = .ok (.invokevirtual 50, 3) := by decide +kernel
theorem dX2_earnings_12 : decode cX2_earnings 12 = .ok (.if_icmp .ge 42, 3) := by decide +kernel
theorem dX2_earnings_15 : decode cX2_earnings 15 = .ok (.aload_n 0, 1) := by decide +kernel
theorem dX2_earnings_16 : decode cX2_earnings 16 = .ok (.getfield 23, 3) := by decide +kernel
theorem dX2_earnings_19 : decode cX2_earnings 19 = .ok (.iload_n 3, 1) := by decide +kernel
theorem dX2_earnings_20 : decode cX2_earnings 20 = .ok (.iconst 3, 1) := by decide +kernel
theorem dX2_earnings_21 : decode cX2_earnings 21 = .ok (.invokevirtual 58, 3) := by decide +kernel
theorem dX2_earnings_24 : decode cX2_earnings 24 = .ok (.ifCond .ne 24, 3) := by decide +kernel
theorem dX2_earnings_27 : decode cX2_earnings 27 = .ok (.aload_n 0, 1) := by decide +kernel
theorem dX2_earnings_28 : decode cX2_earnings 28 = .ok (.getfield 23, 3) := by decide +kernel
theorem dX2_earnings_31 : decode cX2_earnings 31 = .ok (.iload_n 3, 1) := by decide +kernel
theorem dX2_earnings_32 : decode cX2_earnings 32 = .ok (.iconst 2, 1) := by decide +kernel
theorem dX2_earnings_33 : decode cX2_earnings 33 = .ok (.invokevirtual 58, 3) := by decide +kernel
theorem dX2_earnings_36 : decode cX2_earnings 36 = .ok (.iload_n 1, 1) := by decide +kernel
theorem dX2_earnings_37 : decode cX2_earnings 37 = .ok (.if_icmp .gt 11, 3) := by decide +kernel
theorem dX2_earnings_40 : decode cX2_earnings 40 = .ok (.iload_n 2, 1) := by decide +kernel
theorem dX2_earnings_41 : decode cX2_earnings 41 = .ok (.aload_n 0, 1) := by decide +kernel
theorem dX2_earnings_42 : decode cX2_earnings 42 = .ok (.iload_n 3, 1) := by decide +kernel
theorem dX2_earnings_43 : decode cX2_earnings 43 = .ok (.invokevirtual 96, 3) := by decide +kernel
theorem dX2_earnings_46 : decode cX2_earnings 46 = .ok (.iadd, 1) := by decide +kernel
theorem dX2_earnings_47 : decode cX2_earnings 47 = .ok (.istore_n 2, 1) := by decide +kernel
theorem dX2_earnings_48 : decode cX2_earnings 48 = .ok (.iinc 3 1, 3) := by decide +kernel
theorem dX2_earnings_51 : decode cX2_earnings 51 = .ok (.goto (-47), 3) := by decide +kernel
theorem dX2_earnings_54 : decode cX2_earnings 54 = .ok (.iload_n 2, 1) := by decide +kernel
theorem dX2_earnings_55 : decode cX2_earnings 55 = .ok (.ireturn, 1) := by decide +kernel
theorem dX3_init_0 : decode cX3_init 0 = .ok (.aload_n 0, 1) := by decide +kernel
theorem dX3_init_1 : decode cX3_init 1 = .ok (.invokespecial 3, 3) := by decide +kernel
theorem dX3_init_4 : decode cX3_init 4 = .ok (.aload_n 0, 1) := by decide +kernel
theorem dX3_init_5 : decode cX3_init 5 = .ok (.bipush 14, 2) := by decide +kernel
theorem dX3_init_7 : decode cX3_init 7 = .ok (.anewarray 9, 3) := by decide +kernel
theorem dX3_init_10 : decode cX3_init 10 = .ok (.putfield 11, 3) := by decide +kernel
theorem dX3_init_13 : decode cX3_init 13 = .ok (.iconst 0, 1) := by decide +kernel
theorem dX3_init_14 : decode cX3_init 14 = .ok (.istore_n 1, 1) := by decide +kernel
theorem dX3_init_15 : decode cX3_init 15 = .ok (.iload_n 1, 1) := by decide +kernel
theorem dX3_init_16 : decode cX3_init 16 = .ok (.aload_n 0, 1) := by decide +kernel
theorem dX3_init_17 : decode cX3_init 17 = .ok (.getfield 11, 3) := by decide +kernel
theorem dX3_init_20 : decode cX3_init 20 = .ok (.arraylength, 1) := by decide +kernel
theorem dX3_init_21 : decode cX3_init 21 = .ok (.if_icmp .ge 22, 3) := by decide +kernel
theorem dX3_init_24 : decode cX3_init 24 = .ok (.aload_n 0, 1) := by decide +kernel
theorem dX3_init_25 : decode cX3_init 25 = .ok (.getfield 11, 3) := by decide +kernel
theorem dX3_init_28 : decode cX3_init 28 = .ok (.iload_n 1, 1) := by decide +kernel
theorem dX3_init_29 : decode cX3_init 29 = .ok (.new 9, 3) := by decide +kernel
theorem dX3_init_32 : decode cX3_init 32 = .ok (.dup, 1) := by decide +kernel
theorem dX3_init_33 : decode cX3_init 33 = .ok (.invokespecial 17, 3) := by decide +kernel
theorem dX3_init_36 : decode cX3_init 36 = .ok (.aastore, 1) := by decide +kernel
theorem dX3_init_37 : decode cX3_init 37 = .ok (.iinc 1 1, 3) := by decide +kernel
theorem dX3_init_40 : decode cX3_init 40 = .ok (.goto (-25), 3) := by decide +kernel
theorem dX3_init_43 : decode cX3_init 43 = .ok (.return_, 1) := by decide +kernel
theorem dX3_isEmpty_0 : decode cX3_isEmpty 0 = .ok (.aload_n 0, 1) := by decide +kernel
theorem dX3_isEmpty_1 : decode cX3_isEmpty 1 = .ok (.getfield 18, 3) := by decide +kernel
theorem dX3_isEmpty_4 : decode cX3_isEmpty 4 = .ok (.ifCond .ne 7, 3) := by decide +kernel
theorem dX3_isEmpty_7 : decode cX3_isEmpty 7 = .ok (.iconst 1, 1) := by decide +kernel
theorem dX3_isEmpty_8 : decode cX3_isEmpty 8 = .ok (.goto 4, 3) := by decide +kernel
theorem dX3_isEmpty_11 : decode cX3_isEmpty 11 = .ok (.iconst 0, 1) := by decide +kernel
theorem dX3_isEmpty_12 : decode cX3_isEmpty 12 = .ok (.ireturn, 1) := by decide +kernel
theorem dX3_forgetAll_0 : decode cX3_forgetAll 0 = .ok (.aload_n 0, 1) := by decide +kernel
theorem dX3_forgetAll_1 : decode cX3_forgetAll 1 = .ok (.iconst 0, 1) := by decide +kernel
theorem dX3_forgetAll_2 : decode cX3_forgetAll 2 = .ok (.putfield 18, 3) := by decide +kernel
theorem dX3_forgetAll_5 : decode cX3_forgetAll 5 = .ok (.return_, 1) := by decide +kernel
theorem dX3_remember_0 : decode cX3_remember 0 = .ok (.aload_n 0, 1) := by decide +kernel
theorem dX3_remember_1 : decode cX3_remember 1 = .ok (.getfield 22, 3) := by decide +kernel
theorem dX3_remember_4 : decode cX3_remember 4 = .ok (.ifCond .lt 28, 3) := by decide +kernel
theorem dX3_remember_7 : decode cX3_remember 7 = .ok (.aload_n 0, 1) := by decide +kernel
theorem dX3_remember_8 : decode cX3_remember 8 = .ok (.getfield 22, 3) := by decide +kernel
theorem dX3_remember_11 : decode cX3_remember 11 = .ok (.aload_n 0, 1) := by decide +kernel
theorem dX3_remember_12 : decode cX3_remember 12 = .ok (.getfield 11, 3) := by decide +kernel
theorem dX3_remember_15 : decode cX3_remember 15 = .ok (.arraylength, 1) := by decide +kernel
theorem dX3_remember_16 : decode cX3_remember 16 = .ok (.if_icmp .ge 16, 3) := by decide +kernel
theorem dX3_remember_19 : decode cX3_remember 19 = .ok (.aload_n 1, 1) := by decide +kernel
theorem dX3_remember_20 : decode cX3_remember 20 = .ok (.aload_n 0, 1) := by decide +kernel
theorem dX3_remember_21 : decode cX3_remember 21 = .ok (.getfield 11, 3) := by decide +kernel
theorem dX3_remember_24 : decode cX3_remember 24 = .ok (.aload_n 0, 1) := by decide +kernel
theorem dX3_remember_25 : decode cX3_remember 25 = .ok (.getfield 22, 3) := by decide +kernel
theorem dX3_remember_28 : decode cX3_remember 28 = .ok (.aaload, 1) := by decide +kernel
theorem dX3_remember_29 : decode cX3_remember 29 = .ok (.invokestatic 25, 3) := by decide +kernel
theorem dX3_remember_32 : decode cX3_remember 32 = .ok (.aload_n 0, 1) := by decide +kernel
theorem dX3_remember_33 : decode cX3_remember 33 = .ok (.aload_n 0, 1) := by decide +kernel
theorem dX3_remember_34 : decode cX3_remember 34 = .ok (.getfield 22, 3) := by decide +kernel
theorem dX3_remember_37 : decode cX3_remember 37 = .ok (.iconst 1, 1) := by decide +kernel
theorem dX3_remember_38 : decode cX3_remember 38 = .ok (.iadd, 1) := by decide +kernel
theorem dX3_remember_39 : decode cX3_remember 39 = .ok (.bipush 14, 2) := by decide +kernel
theorem dX3_remember_41 : decode cX3_remember 41 = .ok (.if_icmp .ge 12, 3) := by decide +kernel
theorem dX3_remember_44 : decode cX3_remember 44 = .ok (.aload_n 0, 1) := by decide +kernel
theorem dX3_remember_45 : decode cX3_remember 45 = .ok (.getfield 22, 3) := by decide +kernel
theorem dX3_remember_48 : decode cX3_remember 48 = .ok (.iconst 1, 1) := by decide +kernel
theorem dX3_remember_49 : decode cX3_remember 49 = .ok (.iadd, 1) := by decide +kernel
theorem dX3_remember_50 : decode cX3_remember 50 = .ok (.goto 4, 3) := by decide +kernel
theorem dX3_remember_53 : decode cX3_remember 53 = .ok (.iconst 0, 1) := by decide +kernel
theorem dX3_remember_54 : decode cX3_remember 54 = .ok (.putfield 22, 3) := by decide +kernel
theorem dX3_remember_57 : decode cX3_remember 57 = .ok (.aload_n 0, 1) := by decide +kernel
theorem dX3_remember_58 : decode cX3_remember 58 = .ok (.aload_n 0, 1) := by decide +kernel
theorem dX3_remember_59 : decode cX3_remember 59 = .ok (.getfield 18, 3) := by decide +kernel
theorem dX3_remember_62 : decode cX3_remember 62 = .ok (.iconst 1, 1) := by decide +kernel
theorem dX3_remember_63 : decode cX3_remember 63 = .ok (.iadd, 1) := by decide +kernel
theorem dX3_remember_64 : decode cX3_remember 64 = .ok (.bipush 14, 2) := by decide +kernel
theorem dX3_remember_66 : decode cX3_remember 66 = .ok (.invokestatic 29, 3) := by decide +kernel
theorem dX3_remember_69 : decode cX3_remember 69 = .ok (.putfield 18, 3) := by decide +kernel
theorem dX3_remember_72 : decode cX3_remember 72 = .ok (.return_, 1) := by decide +kernel
theorem dX3_takeBack_0 : decode cX3_takeBack 0 = .ok (.aload_n 0, 1) := by decide +kernel
theorem dX3_takeBack_1 : decode cX3_takeBack 1 = .ok (.aload_n 0, 1) := by decide +kernel
theorem dX3_takeBack_2 : decode cX3_takeBack 2 = .ok (.getfield 22, 3) := by decide +kernel
theorem dX3_takeBack_5 : decode cX3_takeBack 5 = .ok (.ifCond .le 12, 3) := by decide +kernel
theorem dX3_takeBack_8 : decode cX3_takeBack 8 = .ok (.aload_n 0, 1) := by decide +kernel
theorem dX3_takeBack_9 : decode cX3_takeBack 9 = .ok (.getfield 22, 3) := by decide +kernel
theorem dX3_takeBack_12 : decode cX3_takeBack 12 = .ok (.iconst 1, 1) := by decide +kernel
theorem dX3_takeBack_13 : decode cX3_takeBack 13 = .ok (.isub, 1) := by decide +kernel
theorem dX3_takeBack_14 : decode cX3_takeBack 14 = .ok (.goto 5, 3) := by decide +kernel
theorem dX3_takeBack_17 : decode cX3_takeBack 17 = .ok (.bipush 13, 2) := by decide +kernel
theorem dX3_takeBack_19 : decode cX3_takeBack 19 = .ok (.putfield 22, 3) := by decide +kernel
theorem dX3_takeBack_22 : decode cX3_takeBack 22 = .ok (.aload_n 0, 1) := by decide +kernel
theorem dX3_takeBack_23 : decode cX3_takeBack 23 = .ok (.dup, 1) := by decide +kernel
theorem dX3_takeBack_24 : decode cX3_takeBack 24 = .ok (.getfield 18, 3) := by decide +kernel
theorem dX3_takeBack_27 : decode cX3_takeBack 27 = .ok (.iconst 1, 1) := by decide +kernel
theorem dX3_takeBack_28 : decode cX3_takeBack 28 = .ok (.isub, 1) := by decide +kernel
theorem dX3_takeBack_29 : decode cX3_takeBack 29 = .ok (.putfield 18, 3) := by decide +kernel
theorem dX3_takeBack_32 : decode cX3_takeBack 32 = .ok (.aload_n 0, 1) := by decide +kernel
theorem dX3_takeBack_33 : decode cX3_takeBack 33 = .ok (.getfield 22, 3) := by decide +kernel
theorem dX3_takeBack_36 : decode cX3_takeBack 36 = .ok (.ifCond .lt 28, 3) := by decide +kernel
theorem dX3_takeBack_39 : decode cX3_takeBack 39 = .ok (.aload_n 0, 1) := by decide +kernel
theorem dX3_takeBack_40 : decode cX3_takeBack 40 = .ok (.getfield 22, 3) := by decide +kernel
theorem dX3_takeBack_43 : decode cX3_takeBack 43 = .ok (.aload_n 0, 1) := by decide +kernel
theorem dX3_takeBack_44 : decode cX3_takeBack 44 = .ok (.getfield 11, 3) := by decide +kernel
theorem dX3_takeBack_47 : decode cX3_takeBack 47 = .ok (.arraylength, 1) := by decide +kernel
theorem dX3_takeBack_48 : decode cX3_takeBack 48 = .ok (.if_icmp .ge 16, 3) := by decide +kernel
theorem dX3_takeBack_51 : decode cX3_takeBack 51 = .ok (.aload_n 0, 1) := by decide +kernel
theorem dX3_takeBack_52 : decode cX3_takeBack 52 = .ok (.getfield 11, 3) := by decide +kernel
theorem dX3_takeBack_55 : decode cX3_takeBack 55 = .ok (.aload_n 0, 1) := by decide +kernel
theorem dX3_takeBack_56 : decode cX3_takeBack 56 = .ok (.getfield 22, 3) := by decide +kernel
theorem dX3_takeBack_59 : decode cX3_takeBack 59 = .ok (.aaload, 1) := by decide +kernel
theorem dX3_takeBack_60 : decode cX3_takeBack 60 = .ok (.aload_n 1, 1) := by decide +kernel
theorem dX3_takeBack_61 : decode cX3_takeBack 61 = .ok (.invokestatic 25, 3) := by decide +kernel
theorem dX3_takeBack_64 : decode cX3_takeBack 64 = .ok (.aload_n 0, 1) := by decide +kernel
theorem dX3_takeBack_65 : decode cX3_takeBack 65 = .ok (.getfield 18, 3) := by decide +kernel
theorem dX3_takeBack_68 : decode cX3_takeBack 68 = .ok (.ireturn, 1) := by decide +kernel
theorem dX4_init_0 : decode cX4_init 0 = .ok (.aload_n 0, 1) := by decide +kernel
theorem dX4_init_1 : decode cX4_init 1 = .ok (.invokespecial 3, 3) := by decide +kernel
theorem dX4_init_4 : decode cX4_init 4 = .ok (.aload_n 0, 1) := by decide +kernel
theorem dX4_init_5 : decode cX4_init 5 = .ok (.aload_n 1, 1) := by decide +kernel
theorem dX4_init_6 : decode cX4_init 6 = .ok (.putfield 9, 3) := by decide +kernel
theorem dX4_init_9 : decode cX4_init 9 = .ok (.aload_n 0, 1) := by decide +kernel
theorem dX4_init_10 : decode cX4_init 10 = .ok (.aload_n 2, 1) := by decide +kernel
theorem dX4_init_11 : decode cX4_init 11 = .ok (.putfield 15, 3) := by decide +kernel
theorem dX4_init_14 : decode cX4_init 14 = .ok (.return_, 1) := by decide +kernel
theorem dX4_read_0 : decode cX4_read 0 = .ok (.aload_n 0, 1) := by decide +kernel
theorem dX4_read_1 : decode cX4_read 1 = .ok (.iconst 0, 1) := by decide +kernel
theorem dX4_read_2 : decode cX4_read 2 = .ok (.putfield 19, 3) := by decide +kernel
theorem dX4_read_5 : decode cX4_read 5 = .ok (.aload_n 0, 1) := by decide +kernel
theorem dX4_read_6 : decode cX4_read 6 = .ok (.getfield 15, 3) := by decide +kernel
theorem dX4_read_9 : decode cX4_read 9 = .ok (.invokevirtual 23, 3) := by decide +kernel
theorem dX4_read_12 : decode cX4_read 12 = .ok (.aload_n 0, 1) := by decide +kernel
theorem dX4_read_13 : decode cX4_read 13 = .ok (.getfield 9, 3) := by decide +kernel
theorem dX4_read_16 : decode cX4_read 16 = .ok (.aload_n 0, 1) := by decide +kernel
theorem dX4_read_17 : decode cX4_read 17 = .ok (.getfield 19, 3) := by decide +kernel
theorem dX4_read_20 : decode cX4_read 20 = .ok (.invokevirtual 28, 3) := by decide +kernel
theorem dX4_read_23 : decode cX4_read 23 = .ok (.bipush 76, 2) := by decide +kernel
theorem dX4_read_25 : decode cX4_read 25 = .ok (.if_icmp .eq 8, 3) := by decide +kernel
theorem dX4_read_28 : decode cX4_read 28 = .ok (.aload_n 0, 1) := by decide +kernel
theorem dX4_read_29 : decode cX4_read 29 = .ok (.getfield 19, 3) := by decide +kernel
theorem dX4_read_32 : decode cX4_read 32 = .ok (.ireturn, 1) := by decide +kernel
theorem dX4_read_33 : decode cX4_read 33 = .ok (.aload_n 0, 1) := by decide +kernel
theorem dX4_read_34 : decode cX4_read 34 = .ok (.dup, 1) := by decide +kernel
theorem dX4_read_35 : decode cX4_read 35 = .ok (.getfield 19, 3) := by decide +kernel
theorem dX4_read_38 : decode cX4_read 38 = .ok (.iconst 1, 1) := by decide +kernel
theorem dX4_read_39 : decode cX4_read 39 = .ok (.iadd, 1) := by decide +kernel
theorem dX4_read_40 : decode cX4_read 40 = .ok (.putfield 19, 3) := by decide +kernel
theorem dX4_read_43 : decode cX4_read 43 = .ok (.aload_n 0, 1) := by decide +kernel
theorem dX4_read_44 : decode cX4_read 44 = .ok (.iconst 0, 1) := by decide +kernel
theorem dX4_read_45 : decode cX4_read 45 = .ok (.bipush 9, 2) := by decide +kernel
theorem dX4_read_47 : decode cX4_read 47 = .ok (.invokevirtual 34, 3) := by decide +kernel
theorem dX4_read_50 : decode cX4_read 50 = .ok (.istore_n 1, 1) := by decide +kernel
theorem dX4_read_51 : decode cX4_read 51 = .ok (.iload_n 1, 1) := by decide +kernel
theorem dX4_read_52 : decode cX4_read 52 = .ok (.bipush (-9), 2) := by decide +kernel
theorem dX4_read_54 : decode cX4_read 54 = .ok (.if_icmp .ne 8, 3) := by decide +kernel
theorem dX4_read_57 : decode cX4_read 57 = .ok (.aload_n 0, 1) := by decide +kernel
theorem dX4_read_58 : decode cX4_read 58 = .ok (.getfield 19, 3) := by decide +kernel
theorem dX4_read_61 : decode cX4_read 61 = .ok (.ireturn, 1) := by decide +kernel
theorem dX4_read_62 : decode cX4_read 62 = .ok (.aload_n 0, 1) := by decide +kernel
theorem dX4_read_63 : decode cX4_read 63 = .ok (.getfield 15, 3) := by decide +kernel
theorem dX4_read_66 : decode cX4_read 66 = .ok (.iload_n 1, 1) := by decide +kernel
theorem dX4_read_67 : decode cX4_read 67 = .ok (.putfield 38, 3) := by decide +kernel
theorem dX4_read_70 : decode cX4_read 70 = .ok (.iconst 0, 1) := by decide +kernel
theorem dX4_read_71 : decode cX4_read 71 = .ok (.istore_n 2, 1) := by decide +kernel
theorem dX4_read_72 : decode cX4_read 72 = .ok (.iload_n 2, 1) := by decide +kernel
theorem dX4_read_73 : decode cX4_read 73 = .ok (.bipush 80, 2) := by decide +kernel
theorem dX4_read_75 : decode cX4_read 75 = .ok (.if_icmp .ge 35, 3) := by decide +kernel
theorem dX4_read_78 : decode cX4_read 78 = .ok (.aload_n 0, 1) := by decide +kernel
theorem dX4_read_79 : decode cX4_read 79 = .ok (.getfield 19, 3) := by decide +kernel
theorem dX4_read_82 : decode cX4_read 82 = .ok (.aload_n 0, 1) := by decide +kernel
theorem dX4_read_83 : decode cX4_read 83 = .ok (.getfield 9, 3) := by decide +kernel
theorem dX4_read_86 : decode cX4_read 86 = .ok (.invokevirtual 41, 3) := by decide +kernel
theorem dX4_read_89 : decode cX4_read 89 = .ok (.if_icmp .ge 21, 3) := by decide +kernel
theorem dX4_read_92 : decode cX4_read 92 = .ok (.aload_n 0, 1) := by decide +kernel
theorem dX4_read_93 : decode cX4_read 93 = .ok (.invokevirtual 45, 3) := by decide +kernel
theorem dX4_read_96 : decode cX4_read 96 = .ok (.ifCond .ne 8, 3) := by decide +kernel
theorem dX4_read_99 : decode cX4_read 99 = .ok (.aload_n 0, 1) := by decide +kernel
theorem dX4_read_100 : decode cX4_read 100 = .ok (.getfield 19, 3) := by decide +kernel
theorem dX4_read_103 : decode cX4_read 103 = .ok (.ireturn, 1) := by decide +kernel
theorem dX4_read_104 : decode cX4_read 104 = .ok (.iinc 2 1, 3) := by decide +kernel
theorem dX4_read_107 : decode cX4_read 107 = .ok (.goto (-35), 3) := by decide +kernel
theorem dX4_read_110 : decode cX4_read 110 = .ok (.aload_n 0, 1) := by decide +kernel
theorem dX4_read_111 : decode cX4_read 111 = .ok (.getfield 15, 3) := by decide +kernel
theorem dX4_read_114 : decode cX4_read 114 = .ok (.invokevirtual 49, 3) := by decide +kernel
theorem dX4_read_117 : decode cX4_read 117 = .ok (.bipush (-9), 2) := by decide +kernel
theorem dX4_read_119 : decode cX4_read 119 = .ok (.ireturn, 1) := by decide +kernel
theorem dX4_takePart_0 : decode cX4_takePart 0 = .ok (.aload_n 0, 1) := by decide +kernel
theorem dX4_takePart_1 : decode cX4_takePart 1 = .ok (.getfield 9, 3) := by decide +kernel
theorem dX4_takePart_4 : decode cX4_takePart 4 = .ok (.aload_n 0, 1) := by decide +kernel
theorem dX4_takePart_5 : decode cX4_takePart 5 = .ok (.getfield 19, 3) := by decide +kernel
theorem dX4_takePart_8 : decode cX4_takePart 8 = .ok (.invokevirtual 28, 3) := by decide +kernel
theorem dX4_takePart_11 : decode cX4_takePart 11 = .ok (.lookupswitch 61 #[(99, 41), (102, 56), (109, 46), (115, 51)], 41) := by decide +kernel
theorem dX4_takePart_52 : decode cX4_takePart 52 = .ok (.aload_n 0, 1) := by decide +kernel
theorem dX4_takePart_53 : decode cX4_takePart 53 = .ok (.invokevirtual 52, 3) := by decide +kernel
theorem dX4_takePart_56 : decode cX4_takePart 56 = .ok (.ireturn, 1) := by decide +kernel
theorem dX4_takePart_57 : decode cX4_takePart 57 = .ok (.aload_n 0, 1) := by decide +kernel
theorem dX4_takePart_58 : decode cX4_takePart 58 = .ok (.invokevirtual 55, 3) := by decide +kernel
theorem dX4_takePart_61 : decode cX4_takePart 61 = .ok (.ireturn, 1) := by decide +kernel
theorem dX4_takePart_62 : decode cX4_takePart 62 = .ok (.aload_n 0, 1) := by decide +kernel
theorem dX4_takePart_63 : decode cX4_takePart 63 = .ok (.invokevirtual 58, 3) := by decide +kernel
theorem dX4_takePart_66 : decode cX4_takePart 66 = .ok (.ireturn, 1) := by decide +kernel
theorem dX4_takePart_67 : decode cX4_takePart 67 = .ok (.aload_n 0, 1) := by decide +kernel
theorem dX4_takePart_68 : decode cX4_takePart 68 = .ok (.invokevirtual 61, 3) := by decide +kernel
theorem dX4_takePart_71 : decode cX4_takePart 71 = .ok (.ireturn, 1) := by decide +kernel
theorem dX4_takePart_72 : decode cX4_takePart 72 = .ok (.iconst 0, 1) := by decide +kernel
theorem dX4_takePart_73 : decode cX4_takePart 73 = .ok (.ireturn, 1) := by decide +kernel
theorem dX4_takeDigit_0 : decode cX4_takeDigit 0 = .ok (.aload_n 0, 1) := by decide +kernel
theorem dX4_takeDigit_1 : decode cX4_takeDigit 1 = .ok (.getfield 9, 3) := by decide +kernel
theorem dX4_takeDigit_4 : decode cX4_takeDigit 4 = .ok (.aload_n 0, 1) := by decide +kernel
theorem dX4_takeDigit_5 : decode cX4_takeDigit 5 = .ok (.getfield 19, 3) := by decide +kernel
theorem dX4_takeDigit_8 : decode cX4_takeDigit 8 = .ok (.invokevirtual 28, 3) := by decide +kernel
theorem dX4_takeDigit_11 : decode cX4_takeDigit 11 = .ok (.bipush 48, 2) := by decide +kernel
theorem dX4_takeDigit_13 : decode cX4_takeDigit 13 = .ok (.isub, 1) := by decide +kernel
theorem dX4_takeDigit_14 : decode cX4_takeDigit 14 = .ok (.istore_n 3, 1) := by decide +kernel
theorem dX4_takeDigit_15 : decode cX4_takeDigit 15 = .ok (.iload_n 3, 1) := by decide +kernel
theorem dX4_takeDigit_16 : decode cX4_takeDigit 16 = .ok (.iload_n 1, 1) := by decide +kernel
theorem dX4_takeDigit_17 : decode cX4_takeDigit 17 = .ok (.iload_n 2, 1) := by decide +kernel
theorem dX4_takeDigit_18 : decode cX4_takeDigit 18 = .ok (.invokestatic 64, 3) := by decide +kernel
theorem dX4_takeDigit_21 : decode cX4_takeDigit 21 = .ok (.ifCond .ne 6, 3) := by decide +kernel
theorem dX4_takeDigit_24 : decode cX4_takeDigit 24 = .ok (.bipush (-9), 2) := by decide +kernel
theorem dX4_takeDigit_26 : decode cX4_takeDigit 26 = .ok (.ireturn, 1) := by decide +kernel
theorem dX4_takeDigit_27 : decode cX4_takeDigit 27 = .ok (.aload_n 0, 1) := by decide +kernel
theorem dX4_takeDigit_28 : decode cX4_takeDigit 28 = .ok (.dup, 1) := by decide +kernel
theorem dX4_takeDigit_29 : decode cX4_takeDigit 29 = .ok (.getfield 19, 3) := by decide +kernel
theorem dX4_takeDigit_32 : decode cX4_takeDigit 32 = .ok (.iconst 1, 1) := by decide +kernel
theorem dX4_takeDigit_33 : decode cX4_takeDigit 33 = .ok (.iadd, 1) := by decide +kernel
theorem dX4_takeDigit_34 : decode cX4_takeDigit 34 = .ok (.putfield 19, 3) := by decide +kernel
theorem dX4_takeDigit_37 : decode cX4_takeDigit 37 = .ok (.iload_n 3, 1) := by decide +kernel
theorem dX4_takeDigit_38 : decode cX4_takeDigit 38 = .ok (.ireturn, 1) := by decide +kernel
theorem dX4_takeCourse_0 : decode cX4_takeCourse 0 = .ok (.aload_n 0, 1) := by decide +kernel
theorem dX4_takeCourse_1 : decode cX4_takeCourse 1 = .ok (.getfield 15, 3) := by decide +kernel
theorem dX4_takeCourse_4 : decode cX4_takeCourse 4 = .ok (.getfield 68, 3) := by decide +kernel
theorem dX4_takeCourse_7 : decode cX4_takeCourse 7 = .ok (.invokevirtual 72, 3) := by decide +kernel
theorem dX4_takeCourse_10 : decode cX4_takeCourse 10 = .ok (.ifCond .ne 5, 3) := by decide +kernel
theorem dX4_takeCourse_13 : decode cX4_takeCourse 13 = .ok (.iconst 0, 1) := by decide +kernel
theorem dX4_takeCourse_14 : decode cX4_takeCourse 14 = .ok (.ireturn, 1) := by decide +kernel
theorem dX4_takeCourse_15 : decode cX4_takeCourse 15 = .ok (.aload_n 0, 1) := by decide +kernel
theorem dX4_takeCourse_16 : decode cX4_takeCourse 16 = .ok (.dup, 1) := by decide +kernel
theorem dX4_takeCourse_17 : decode cX4_takeCourse 17 = .ok (.getfield 19, 3) := by decide +kernel
theorem dX4_takeCourse_20 : decode cX4_takeCourse 20 = .ok (.iconst 1, 1) := by decide +kernel
theorem dX4_takeCourse_21 : decode cX4_takeCourse 21 = .ok (.iadd, 1) := by decide +kernel
theorem dX4_takeCourse_22 : decode cX4_takeCourse 22 = .ok (.putfield 19, 3) := by decide +kernel
theorem dX4_takeCourse_25 : decode cX4_takeCourse 25 = .ok (.aload_n 0, 1) := by decide +kernel
theorem dX4_takeCourse_26 : decode cX4_takeCourse 26 = .ok (.iconst 1, 1) := by decide +kernel
theorem dX4_takeCourse_27 : decode cX4_takeCourse 27 = .ok (.bipush 9, 2) := by decide +kernel
theorem dX4_takeCourse_29 : decode cX4_takeCourse 29 = .ok (.invokevirtual 34, 3) := by decide +kernel
theorem dX4_takeCourse_32 : decode cX4_takeCourse 32 = .ok (.istore_n 1, 1) := by decide +kernel
theorem dX4_takeCourse_33 : decode cX4_takeCourse 33 = .ok (.iload_n 1, 1) := by decide +kernel
theorem dX4_takeCourse_34 : decode cX4_takeCourse 34 = .ok (.bipush (-9), 2) := by decide +kernel
theorem dX4_takeCourse_36 : decode cX4_takeCourse 36 = .ok (.if_icmp .ne 8, 3) := by decide +kernel
theorem dX4_takeCourse_39 : decode cX4_takeCourse 39 = .ok (.bipush (-9), 2) := by decide +kernel
theorem dX4_takeCourse_41 : decode cX4_takeCourse 41 = .ok (.goto 10, 3) := by decide +kernel
theorem dX4_takeCourse_44 : decode cX4_takeCourse 44 = .ok (.aload_n 0, 1) := by decide +kernel
theorem dX4_takeCourse_45 : decode cX4_takeCourse 45 = .ok (.iconst 1, 1) := by decide +kernel
theorem dX4_takeCourse_46 : decode cX4_takeCourse 46 = .ok (.bipush 6, 2) := by decide +kernel
theorem dX4_takeCourse_48 : decode cX4_takeCourse 48 = .ok (.invokevirtual 34, 3) := by decide +kernel
theorem dX4_takeCourse_51 : decode cX4_takeCourse 51 = .ok (.istore_n 2, 1) := by decide +kernel
theorem dX4_takeCourse_52 : decode cX4_takeCourse 52 = .ok (.iload_n 2, 1) := by decide +kernel
theorem dX4_takeCourse_53 : decode cX4_takeCourse 53 = .ok (.bipush (-9), 2) := by decide +kernel
theorem dX4_takeCourse_55 : decode cX4_takeCourse 55 = .ok (.if_icmp .ne 8, 3) := by decide +kernel
theorem dX4_takeCourse_58 : decode cX4_takeCourse 58 = .ok (.bipush (-9), 2) := by decide +kernel
theorem dX4_takeCourse_60 : decode cX4_takeCourse 60 = .ok (.goto 10, 3) := by decide +kernel
theorem dX4_takeCourse_63 : decode cX4_takeCourse 63 = .ok (.aload_n 0, 1) := by decide +kernel
theorem dX4_takeCourse_64 : decode cX4_takeCourse 64 = .ok (.iconst 1, 1) := by decide +kernel
theorem dX4_takeCourse_65 : decode cX4_takeCourse 65 = .ok (.bipush 9, 2) := by decide +kernel
theorem dX4_takeCourse_67 : decode cX4_takeCourse 67 = .ok (.invokevirtual 34, 3) := by decide +kernel
theorem dX4_takeCourse_70 : decode cX4_takeCourse 70 = .ok (.istore_n 3, 1) := by decide +kernel
theorem dX4_takeCourse_71 : decode cX4_takeCourse 71 = .ok (.iload_n 3, 1) := by decide +kernel
theorem dX4_takeCourse_72 : decode cX4_takeCourse 72 = .ok (.bipush (-9), 2) := by decide +kernel
theorem dX4_takeCourse_74 : decode cX4_takeCourse 74 = .ok (.if_icmp .ne 5, 3) := by decide +kernel
theorem dX4_takeCourse_77 : decode cX4_takeCourse 77 = .ok (.iconst 0, 1) := by decide +kernel
theorem dX4_takeCourse_78 : decode cX4_takeCourse 78 = .ok (.ireturn, 1) := by decide +kernel
theorem dX4_takeCourse_79 : decode cX4_takeCourse 79 = .ok (.aload_n 0, 1) := by decide +kernel
theorem dX4_takeCourse_80 : decode cX4_takeCourse 80 = .ok (.getfield 15, 3) := by decide +kernel
theorem dX4_takeCourse_83 : decode cX4_takeCourse 83 = .ok (.iload_n 1, 1) := by decide +kernel
theorem dX4_takeCourse_84 : decode cX4_takeCourse 84 = .ok (.iload_n 2, 1) := by decide +kernel
theorem dX4_takeCourse_85 : decode cX4_takeCourse 85 = .ok (.iload_n 3, 1) := by decide +kernel
theorem dX4_takeCourse_86 : decode cX4_takeCourse 86 = .ok (.invokevirtual 77, 3) := by decide +kernel
theorem dX4_takeCourse_89 : decode cX4_takeCourse 89 = .ok (.pop, 1) := by decide +kernel
theorem dX4_takeCourse_90 : decode cX4_takeCourse 90 = .ok (.iconst 1, 1) := by decide +kernel
theorem dX4_takeCourse_91 : decode cX4_takeCourse 91 = .ok (.ireturn, 1) := by decide +kernel
theorem dX4_takeMason_0 : decode cX4_takeMason 0 = .ok (.aload_n 0, 1) := by decide +kernel
theorem dX4_takeMason_1 : decode cX4_takeMason 1 = .ok (.getfield 15, 3) := by decide +kernel
theorem dX4_takeMason_4 : decode cX4_takeMason 4 = .ok (.getfield 81, 3) := by decide +kernel
theorem dX4_takeMason_7 : decode cX4_takeMason 7 = .ok (.invokevirtual 72, 3) := by decide +kernel
theorem dX4_takeMason_10 : decode cX4_takeMason 10 = .ok (.ifCond .ne 5, 3) := by decide +kernel
theorem dX4_takeMason_13 : decode cX4_takeMason 13 = .ok (.iconst 0, 1) := by decide +kernel
theorem dX4_takeMason_14 : decode cX4_takeMason 14 = .ok (.ireturn, 1) := by decide +kernel
theorem dX4_takeMason_15 : decode cX4_takeMason 15 = .ok (.aload_n 0, 1) := by decide +kernel
theorem dX4_takeMason_16 : decode cX4_takeMason 16 = .ok (.dup, 1) := by decide +kernel
theorem dX4_takeMason_17 : decode cX4_takeMason 17 = .ok (.getfield 19, 3) := by decide +kernel
theorem dX4_takeMason_20 : decode cX4_takeMason 20 = .ok (.iconst 1, 1) := by decide +kernel
theorem dX4_takeMason_21 : decode cX4_takeMason 21 = .ok (.iadd, 1) := by decide +kernel
theorem dX4_takeMason_22 : decode cX4_takeMason 22 = .ok (.putfield 19, 3) := by decide +kernel
theorem dX4_takeMason_25 : decode cX4_takeMason 25 = .ok (.aload_n 0, 1) := by decide +kernel
theorem dX4_takeMason_26 : decode cX4_takeMason 26 = .ok (.iconst 1, 1) := by decide +kernel
theorem dX4_takeMason_27 : decode cX4_takeMason 27 = .ok (.bipush 9, 2) := by decide +kernel
theorem dX4_takeMason_29 : decode cX4_takeMason 29 = .ok (.invokevirtual 34, 3) := by decide +kernel
theorem dX4_takeMason_32 : decode cX4_takeMason 32 = .ok (.istore_n 1, 1) := by decide +kernel
theorem dX4_takeMason_33 : decode cX4_takeMason 33 = .ok (.iload_n 1, 1) := by decide +kernel
theorem dX4_takeMason_34 : decode cX4_takeMason 34 = .ok (.bipush (-9), 2) := by decide +kernel
theorem dX4_takeMason_36 : decode cX4_takeMason 36 = .ok (.if_icmp .ne 8, 3) := by decide +kernel
theorem dX4_takeMason_39 : decode cX4_takeMason 39 = .ok (.bipush (-9), 2) := by decide +kernel
theorem dX4_takeMason_41 : decode cX4_takeMason 41 = .ok (.goto 7, 3) := by decide +kernel
theorem dX4_takeMason_44 : decode cX4_takeMason 44 = .ok (.aload_n 0, 1) := by decide +kernel
theorem dX4_takeMason_45 : decode cX4_takeMason 45 = .ok (.invokevirtual 84, 3) := by decide +kernel
theorem dX4_takeMason_48 : decode cX4_takeMason 48 = .ok (.istore_n 2, 1) := by decide +kernel
theorem dX4_takeMason_49 : decode cX4_takeMason 49 = .ok (.iload_n 2, 1) := by decide +kernel
theorem dX4_takeMason_50 : decode cX4_takeMason 50 = .ok (.bipush (-9), 2) := by decide +kernel
theorem dX4_takeMason_52 : decode cX4_takeMason 52 = .ok (.if_icmp .ne 5, 3) := by decide +kernel
theorem dX4_takeMason_55 : decode cX4_takeMason 55 = .ok (.iconst 0, 1) := by decide +kernel
theorem dX4_takeMason_56 : decode cX4_takeMason 56 = .ok (.ireturn, 1) := by decide +kernel
theorem dX4_takeMason_57 : decode cX4_takeMason 57 = .ok (.aload_n 0, 1) := by decide +kernel
theorem dX4_takeMason_58 : decode cX4_takeMason 58 = .ok (.getfield 15, 3) := by decide +kernel
theorem dX4_takeMason_61 : decode cX4_takeMason 61 = .ok (.iload_n 1, 1) := by decide +kernel
theorem dX4_takeMason_62 : decode cX4_takeMason 62 = .ok (.iload_n 2, 1) := by decide +kernel
theorem dX4_takeMason_63 : decode cX4_takeMason 63 = .ok (.invokevirtual 87, 3) := by decide +kernel
theorem dX4_takeMason_66 : decode cX4_takeMason 66 = .ok (.pop, 1) := by decide +kernel
theorem dX4_takeMason_67 : decode cX4_takeMason 67 = .ok (.iconst 1, 1) := by decide +kernel
theorem dX4_takeMason_68 : decode cX4_takeMason 68 = .ok (.ireturn, 1) := by decide +kernel
theorem dX4_takeStrength_0 : decode cX4_takeStrength 0 = .ok (.aload_n 0, 1) := by decide +kernel
theorem dX4_takeStrength_1 : decode cX4_takeStrength 1 = .ok (.iconst 0, 1) := by decide +kernel
theorem dX4_takeStrength_2 : decode cX4_takeStrength 2 = .ok (.iconst 1, 1) := by decide +kernel
theorem dX4_takeStrength_3 : decode cX4_takeStrength 3 = .ok (.invokevirtual 34, 3) := by decide +kernel
theorem dX4_takeStrength_6 : decode cX4_takeStrength 6 = .ok (.istore_n 1, 1) := by decide +kernel
theorem dX4_takeStrength_7 : decode cX4_takeStrength 7 = .ok (.iload_n 1, 1) := by decide +kernel
theorem dX4_takeStrength_8 : decode cX4_takeStrength 8 = .ok (.bipush (-9), 2) := by decide +kernel
theorem dX4_takeStrength_10 : decode cX4_takeStrength 10 = .ok (.if_icmp .ne 6, 3) := by decide +kernel
theorem dX4_takeStrength_13 : decode cX4_takeStrength 13 = .ok (.bipush (-9), 2) := by decide +kernel
theorem dX4_takeStrength_15 : decode cX4_takeStrength 15 = .ok (.ireturn, 1) := by decide +kernel
theorem dX4_takeStrength_16 : decode cX4_takeStrength 16 = .ok (.iload_n 1, 1) := by decide +kernel
theorem dX4_takeStrength_17 : decode cX4_takeStrength 17 = .ok (.ifCond .ne 13, 3) := by decide +kernel
theorem dX4_takeStrength_20 : decode cX4_takeStrength 20 = .ok (.aload_n 0, 1) := by decide +kernel
theorem dX4_takeStrength_21 : decode cX4_takeStrength 21 = .ok (.iconst 1, 1) := by decide +kernel
theorem dX4_takeStrength_22 : decode cX4_takeStrength 22 = .ok (.bipush 9, 2) := by decide +kernel
theorem dX4_takeStrength_24 : decode cX4_takeStrength 24 = .ok (.invokevirtual 34, 3) := by decide +kernel
theorem dX4_takeStrength_27 : decode cX4_takeStrength 27 = .ok (.goto 9, 3) := by decide +kernel
theorem dX4_takeStrength_30 : decode cX4_takeStrength 30 = .ok (.aload_n 0, 1) := by decide +kernel
theorem dX4_takeStrength_31 : decode cX4_takeStrength 31 = .ok (.iconst 0, 1) := by decide +kernel
theorem dX4_takeStrength_32 : decode cX4_takeStrength 32 = .ok (.iconst 2, 1) := by decide +kernel
theorem dX4_takeStrength_33 : decode cX4_takeStrength 33 = .ok (.invokevirtual 34, 3) := by decide +kernel
theorem dX4_takeStrength_36 : decode cX4_takeStrength 36 = .ok (.istore_n 2, 1) := by decide +kernel
theorem dX4_takeStrength_37 : decode cX4_takeStrength 37 = .ok (.iload_n 2, 1) := by decide +kernel
theorem dX4_takeStrength_38 : decode cX4_takeStrength 38 = .ok (.bipush (-9), 2) := by decide +kernel
theorem dX4_takeStrength_40 : decode cX4_takeStrength 40 = .ok (.if_icmp .ne 8, 3) := by decide +kernel
theorem dX4_takeStrength_43 : decode cX4_takeStrength 43 = .ok (.bipush (-9), 2) := by decide +kernel
theorem dX4_takeStrength_45 : decode cX4_takeStrength 45 = .ok (.goto 9, 3) := by decide +kernel
theorem dX4_takeStrength_48 : decode cX4_takeStrength 48 = .ok (.bipush 10, 2) := by decide +kernel
theorem dX4_takeStrength_50 : decode cX4_takeStrength 50 = .ok (.iload_n 1, 1) := by decide +kernel
theorem dX4_takeStrength_51 : decode cX4_takeStrength 51 = .ok (.imul, 1) := by decide +kernel
theorem dX4_takeStrength_52 : decode cX4_takeStrength 52 = .ok (.iload_n 2, 1) := by decide +kernel
theorem dX4_takeStrength_53 : decode cX4_takeStrength 53 = .ok (.iadd, 1) := by decide +kernel
theorem dX4_takeStrength_54 : decode cX4_takeStrength 54 = .ok (.ireturn, 1) := by decide +kernel
theorem dX4_takeStone_0 : decode cX4_takeStone 0 = .ok (.aload_n 0, 1) := by decide +kernel
theorem dX4_takeStone_1 : decode cX4_takeStone 1 = .ok (.getfield 15, 3) := by decide +kernel
theorem dX4_takeStone_4 : decode cX4_takeStone 4 = .ok (.getfield 81, 3) := by decide +kernel
theorem dX4_takeStone_7 : decode cX4_takeStone 7 = .ok (.invokevirtual 90, 3) := by decide +kernel
theorem dX4_takeStone_10 : decode cX4_takeStone 10 = .ok (.ifCond .eq 29, 3) := by decide +kernel
theorem dX4_takeStone_13 : decode cX4_takeStone 13 = .ok (.aload_n 0, 1) := by decide +kernel
theorem dX4_takeStone_14 : decode cX4_takeStone 14 = .ok (.getfield 15, 3) := by decide +kernel
theorem dX4_takeStone_17 : decode cX4_takeStone 17 = .ok (.getfield 68, 3) := by decide +kernel
theorem dX4_takeStone_20 : decode cX4_takeStone 20 = .ok (.invokevirtual 90, 3) := by decide +kernel
theorem dX4_takeStone_23 : decode cX4_takeStone 23 = .ok (.ifCond .eq 16, 3) := by decide +kernel
theorem dX4_takeStone_26 : decode cX4_takeStone 26 = .ok (.aload_n 0, 1) := by decide +kernel
theorem dX4_takeStone_27 : decode cX4_takeStone 27 = .ok (.getfield 15, 3) := by decide +kernel
theorem dX4_takeStone_30 : decode cX4_takeStone 30 = .ok (.getfield 91, 3) := by decide +kernel
theorem dX4_takeStone_33 : decode cX4_takeStone 33 = .ok (.invokevirtual 72, 3) := by decide +kernel
theorem dX4_takeStone_36 : decode cX4_takeStone 36 = .ok (.ifCond .ne 5, 3) := by decide +kernel
theorem dX4_takeStone_39 : decode cX4_takeStone 39 = .ok (.iconst 0, 1) := by decide +kernel
theorem dX4_takeStone_40 : decode cX4_takeStone 40 = .ok (.ireturn, 1) := by decide +kernel
theorem dX4_takeStone_41 : decode cX4_takeStone 41 = .ok (.aload_n 0, 1) := by decide +kernel
theorem dX4_takeStone_42 : decode cX4_takeStone 42 = .ok (.dup, 1) := by decide +kernel
theorem dX4_takeStone_43 : decode cX4_takeStone 43 = .ok (.getfield 19, 3) := by decide +kernel
theorem dX4_takeStone_46 : decode cX4_takeStone 46 = .ok (.iconst 1, 1) := by decide +kernel
theorem dX4_takeStone_47 : decode cX4_takeStone 47 = .ok (.iadd, 1) := by decide +kernel
theorem dX4_takeStone_48 : decode cX4_takeStone 48 = .ok (.putfield 19, 3) := by decide +kernel
theorem dX4_takeStone_51 : decode cX4_takeStone 51 = .ok (.aload_n 0, 1) := by decide +kernel
theorem dX4_takeStone_52 : decode cX4_takeStone 52 = .ok (.iconst 0, 1) := by decide +kernel
theorem dX4_takeStone_53 : decode cX4_takeStone 53 = .ok (.aload_n 0, 1) := by decide +kernel
theorem dX4_takeStone_54 : decode cX4_takeStone 54 = .ok (.getfield 15, 3) := by decide +kernel
theorem dX4_takeStone_57 : decode cX4_takeStone 57 = .ok (.getfield 81, 3) := by decide +kernel
theorem dX4_takeStone_60 : decode cX4_takeStone 60 = .ok (.invokevirtual 90, 3) := by decide +kernel
theorem dX4_takeStone_63 : decode cX4_takeStone 63 = .ok (.iconst 1, 1) := by decide +kernel
theorem dX4_takeStone_64 : decode cX4_takeStone 64 = .ok (.isub, 1) := by decide +kernel
theorem dX4_takeStone_65 : decode cX4_takeStone 65 = .ok (.invokevirtual 34, 3) := by decide +kernel
theorem dX4_takeStone_68 : decode cX4_takeStone 68 = .ok (.istore_n 1, 1) := by decide +kernel
theorem dX4_takeStone_69 : decode cX4_takeStone 69 = .ok (.iload_n 1, 1) := by decide +kernel
theorem dX4_takeStone_70 : decode cX4_takeStone 70 = .ok (.bipush (-9), 2) := by decide +kernel
theorem dX4_takeStone_72 : decode cX4_takeStone 72 = .ok (.if_icmp .ne 8, 3) := by decide +kernel
theorem dX4_takeStone_75 : decode cX4_takeStone 75 = .ok (.bipush (-9), 2) := by decide +kernel
theorem dX4_takeStone_77 : decode cX4_takeStone 77 = .ok (.goto 20, 3) := by decide +kernel
theorem dX4_takeStone_80 : decode cX4_takeStone 80 = .ok (.aload_n 0, 1) := by decide +kernel
theorem dX4_takeStone_81 : decode cX4_takeStone 81 = .ok (.iconst 0, 1) := by decide +kernel
theorem dX4_takeStone_82 : decode cX4_takeStone 82 = .ok (.aload_n 0, 1) := by decide +kernel
theorem dX4_takeStone_83 : decode cX4_takeStone 83 = .ok (.getfield 15, 3) := by decide +kernel
theorem dX4_takeStone_86 : decode cX4_takeStone 86 = .ok (.getfield 68, 3) := by decide +kernel
theorem dX4_takeStone_89 : decode cX4_takeStone 89 = .ok (.invokevirtual 90, 3) := by decide +kernel
theorem dX4_takeStone_92 : decode cX4_takeStone 92 = .ok (.iconst 1, 1) := by decide +kernel
theorem dX4_takeStone_93 : decode cX4_takeStone 93 = .ok (.isub, 1) := by decide +kernel
theorem dX4_takeStone_94 : decode cX4_takeStone 94 = .ok (.invokevirtual 34, 3) := by decide +kernel
theorem dX4_takeStone_97 : decode cX4_takeStone 97 = .ok (.istore_n 2, 1) := by decide +kernel
theorem dX4_takeStone_98 : decode cX4_takeStone 98 = .ok (.iload_n 2, 1) := by decide +kernel
theorem dX4_takeStone_99 : decode cX4_takeStone 99 = .ok (.bipush (-9), 2) := by decide +kernel
theorem dX4_takeStone_101 : decode cX4_takeStone 101 = .ok (.if_icmp .ne 8, 3) := by decide +kernel
theorem dX4_takeStone_104 : decode cX4_takeStone 104 = .ok (.bipush (-9), 2) := by decide +kernel
theorem dX4_takeStone_106 : decode cX4_takeStone 106 = .ok (.goto 10, 3) := by decide +kernel
theorem dX4_takeStone_109 : decode cX4_takeStone 109 = .ok (.aload_n 0, 1) := by decide +kernel
theorem dX4_takeStone_110 : decode cX4_takeStone 110 = .ok (.iconst 0, 1) := by decide +kernel
theorem dX4_takeStone_111 : decode cX4_takeStone 111 = .ok (.bipush 9, 2) := by decide +kernel
theorem dX4_takeStone_113 : decode cX4_takeStone 113 = .ok (.invokevirtual 34, 3) := by decide +kernel
theorem dX4_takeStone_116 : decode cX4_takeStone 116 = .ok (.istore_n 3, 1) := by decide +kernel
theorem dX4_takeStone_117 : decode cX4_takeStone 117 = .ok (.iload_n 3, 1) := by decide +kernel
theorem dX4_takeStone_118 : decode cX4_takeStone 118 = .ok (.bipush (-9), 2) := by decide +kernel
theorem dX4_takeStone_120 : decode cX4_takeStone 120 = .ok (.if_icmp .ne 5, 3) := by decide +kernel
theorem dX4_takeStone_123 : decode cX4_takeStone 123 = .ok (.iconst 0, 1) := by decide +kernel
theorem dX4_takeStone_124 : decode cX4_takeStone 124 = .ok (.ireturn, 1) := by decide +kernel
theorem dX4_takeStone_125 : decode cX4_takeStone 125 = .ok (.aload_n 0, 1) := by decide +kernel
theorem dX4_takeStone_126 : decode cX4_takeStone 126 = .ok (.getfield 15, 3) := by decide +kernel
theorem dX4_takeStone_129 : decode cX4_takeStone 129 = .ok (.iload_n 1, 1) := by decide +kernel
theorem dX4_takeStone_130 : decode cX4_takeStone 130 = .ok (.iload_n 2, 1) := by decide +kernel
theorem dX4_takeStone_131 : decode cX4_takeStone 131 = .ok (.iload_n 3, 1) := by decide +kernel
theorem dX4_takeStone_132 : decode cX4_takeStone 132 = .ok (.invokevirtual 94, 3) := by decide +kernel
theorem dX4_takeStone_135 : decode cX4_takeStone 135 = .ok (.pop, 1) := by decide +kernel
theorem dX4_takeStone_136 : decode cX4_takeStone 136 = .ok (.iconst 1, 1) := by decide +kernel
theorem dX4_takeStone_137 : decode cX4_takeStone 137 = .ok (.ireturn, 1) := by decide +kernel
theorem dX4_takeFrost_0 : decode cX4_takeFrost 0 = .ok (.aload_n 0, 1) := by decide +kernel
theorem dX4_takeFrost_1 : decode cX4_takeFrost 1 = .ok (.getfield 15, 3) := by decide +kernel
theorem dX4_takeFrost_4 : decode cX4_takeFrost 4 = .ok (.getfield 97, 3) := by decide +kernel
theorem dX4_takeFrost_7 : decode cX4_takeFrost 7 = .ok (.ifCond .eq 5, 3) := by decide +kernel
theorem dX4_takeFrost_10 : decode cX4_takeFrost 10 = .ok (.iconst 0, 1) := by decide +kernel
theorem dX4_takeFrost_11 : decode cX4_takeFrost 11 = .ok (.ireturn, 1) := by decide +kernel
theorem dX4_takeFrost_12 : decode cX4_takeFrost 12 = .ok (.aload_n 0, 1) := by decide +kernel
theorem dX4_takeFrost_13 : decode cX4_takeFrost 13 = .ok (.dup, 1) := by decide +kernel
theorem dX4_takeFrost_14 : decode cX4_takeFrost 14 = .ok (.getfield 19, 3) := by decide +kernel
theorem dX4_takeFrost_17 : decode cX4_takeFrost 17 = .ok (.iconst 1, 1) := by decide +kernel
theorem dX4_takeFrost_18 : decode cX4_takeFrost 18 = .ok (.iadd, 1) := by decide +kernel
theorem dX4_takeFrost_19 : decode cX4_takeFrost 19 = .ok (.putfield 19, 3) := by decide +kernel
theorem dX4_takeFrost_22 : decode cX4_takeFrost 22 = .ok (.aload_n 0, 1) := by decide +kernel
theorem dX4_takeFrost_23 : decode cX4_takeFrost 23 = .ok (.getfield 15, 3) := by decide +kernel
theorem dX4_takeFrost_26 : decode cX4_takeFrost 26 = .ok (.iconst 1, 1) := by decide +kernel
theorem dX4_takeFrost_27 : decode cX4_takeFrost 27 = .ok (.putfield 97, 3) := by decide +kernel
theorem dX4_takeFrost_30 : decode cX4_takeFrost 30 = .ok (.iconst 1, 1) := by decide +kernel
theorem dX4_takeFrost_31 : decode cX4_takeFrost 31 = .ok (.ireturn, 1) := by decide +kernel
theorem dX5_withoutLastGroups_0 : decode cX5_withoutLastGroups 0 = .ok (.lload_n 0, 1) := by decide +kernel
theorem dX5_withoutLastGroups_1 : decode cX5_withoutLastGroups 1 = .ok (.lstore_n 3, 1) := by decide +kernel
theorem dX5_withoutLastGroups_2 : decode cX5_withoutLastGroups 2 = .ok (.iconst 0, 1) := by decide +kernel
theorem dX5_withoutLastGroups_3 : decode cX5_withoutLastGroups 3 = .ok (.istore 5, 2) := by decide +kernel
theorem dX5_withoutLastGroups_5 : decode cX5_withoutLastGroups 5 = .ok (.iload 5, 2) := by decide +kernel
theorem dX5_withoutLastGroups_7 : decode cX5_withoutLastGroups 7 = .ok (.iload_n 2, 1) := by decide +kernel
theorem dX5_withoutLastGroups_8 : decode cX5_withoutLastGroups 8 = .ok (.if_icmp .ge 15, 3) := by decide +kernel
theorem dX5_withoutLastGroups_11 : decode cX5_withoutLastGroups 11 = .ok (.lload_n 3, 1) := by decide +kernel
theorem dX5_withoutLastGroups_12 : decode cX5_withoutLastGroups 12 = .ok (.ldc2_w 9, 3) := by decide +kernel
theorem dX5_withoutLastGroups_15 : decode cX5_withoutLastGroups 15 = .ok (.ldiv, 1) := by decide +kernel
theorem dX5_withoutLastGroups_16 : decode cX5_withoutLastGroups 16 = .ok (.lstore_n 3, 1) := by decide +kernel
theorem dX5_withoutLastGroups_17 : decode cX5_withoutLastGroups 17 = .ok (.iinc 5 1, 3) := by decide +kernel
theorem dX5_withoutLastGroups_20 : decode cX5_withoutLastGroups 20 = .ok (.goto (-15), 3) := by decide +kernel
theorem dX5_withoutLastGroups_23 : decode cX5_withoutLastGroups 23 = .ok (.lload_n 3, 1) := by decide +kernel
theorem dX5_withoutLastGroups_24 : decode cX5_withoutLastGroups 24 = .ok (.lreturn, 1) := by decide +kernel
theorem dX5_lastGroup_0 : decode cX5_lastGroup 0 = .ok (.lload_n 0, 1) := by decide +kernel
theorem dX5_lastGroup_1 : decode cX5_lastGroup 1 = .ok (.ldc2_w 9, 3) := by decide +kernel
theorem dX5_lastGroup_4 : decode cX5_lastGroup 4 = .ok (.lrem, 1) := by decide +kernel
theorem dX5_lastGroup_5 : decode cX5_lastGroup 5 = .ok (.l2i, 1) := by decide +kernel
theorem dX5_lastGroup_6 : decode cX5_lastGroup 6 = .ok (.ireturn, 1) := by decide +kernel
theorem dX5_succeeds_0 : decode cX5_succeeds 0 = .ok (.iload_n 1, 1) := by decide +kernel
theorem dX5_succeeds_1 : decode cX5_succeeds 1 = .ok (.sipush 1000, 3) := by decide +kernel
theorem dX5_succeeds_4 : decode cX5_succeeds 4 = .ok (.idiv, 1) := by decide +kernel
theorem dX5_succeeds_5 : decode cX5_succeeds 5 = .ok (.bipush 10, 2) := by decide +kernel
theorem dX5_succeeds_7 : decode cX5_succeeds 7 = .ok (.irem, 1) := by decide +kernel
theorem dX5_succeeds_8 : decode cX5_succeeds 8 = .ok (.istore_n 2, 1) := by decide +kernel
theorem dX5_succeeds_9 : decode cX5_succeeds 9 = .ok (.iload_n 1, 1) := by decide +kernel
theorem dX5_succeeds_10 : decode cX5_succeeds 10 = .ok (.bipush 100, 2) := by decide +kernel
theorem dX5_succeeds_12 : decode cX5_succeeds 12 = .ok (.idiv, 1) := by decide +kernel
theorem dX5_succeeds_13 : decode cX5_succeeds 13 = .ok (.bipush 10, 2) := by decide +kernel
theorem dX5_succeeds_15 : decode cX5_succeeds 15 = .ok (.irem, 1) := by decide +kernel
theorem dX5_succeeds_16 : decode cX5_succeeds 16 = .ok (.istore_n 3, 1) := by decide +kernel
theorem dX5_succeeds_17 : decode cX5_succeeds 17 = .ok (.iload_n 1, 1) := by decide +kernel
theorem dX5_succeeds_18 : decode cX5_succeeds 18 = .ok (.bipush 10, 2) := by decide +kernel
theorem dX5_succeeds_20 : decode cX5_succeeds 20 = .ok (.idiv, 1) := by decide +kernel
theorem dX5_succeeds_21 : decode cX5_succeeds 21 = .ok (.bipush 10, 2) := by decide +kernel
theorem dX5_succeeds_23 : decode cX5_succeeds 23 = .ok (.irem, 1) := by decide +kernel
theorem dX5_succeeds_24 : decode cX5_succeeds 24 = .ok (.istore 4, 2) := by decide +kernel
theorem dX5_succeeds_26 : decode cX5_succeeds 26 = .ok (.iload_n 1, 1) := by decide +kernel
theorem dX5_succeeds_27 : decode cX5_succeeds 27 = .ok (.bipush 10, 2) := by decide +kernel
theorem dX5_succeeds_29 : decode cX5_succeeds 29 = .ok (.irem, 1) := by decide +kernel
theorem dX5_succeeds_30 : decode cX5_succeeds 30 = .ok (.istore 5, 2) := by decide +kernel
theorem dX5_succeeds_32 : decode cX5_succeeds 32 = .ok (.iload_n 1, 1) := by decide +kernel
theorem dX5_succeeds_33 : decode cX5_succeeds 33 = .ok (.bipush 100, 2) := by decide +kernel
theorem dX5_succeeds_35 : decode cX5_succeeds 35 = .ok (.irem, 1) := by decide +kernel
theorem dX5_succeeds_36 : decode cX5_succeeds 36 = .ok (.istore 6, 2) := by decide +kernel
theorem dX5_succeeds_38 : decode cX5_succeeds 38 = .ok (.iload_n 1, 1) := by decide +kernel
theorem dX5_succeeds_39 : decode cX5_succeeds 39 = .ok (.sipush 10000, 3) := by decide +kernel
theorem dX5_succeeds_42 : decode cX5_succeeds 42 = .ok (.idiv, 1) := by decide +kernel
theorem dX5_succeeds_43 : decode cX5_succeeds 43 = .ok (.tableswitch 269 1 9 #[49, 71, 94, 103, 126, 154, 182, 205, 227], 49) := by decide +kernel
theorem dX5_succeeds_92 : decode cX5_succeeds 92 = .ok (.iload 5, 2) := by decide +kernel
theorem dX5_succeeds_94 : decode cX5_succeeds 94 = .ok (.ifCond .ne 18, 3) := by decide +kernel
theorem dX5_succeeds_97 : decode cX5_succeeds 97 = .ok (.aload_n 0, 1) := by decide +kernel
theorem dX5_succeeds_98 : decode cX5_succeeds 98 = .ok (.iload_n 2, 1) := by decide +kernel
theorem dX5_succeeds_99 : decode cX5_succeeds 99 = .ok (.iload_n 3, 1) := by decide +kernel
theorem dX5_succeeds_100 : decode cX5_succeeds 100 = .ok (.iload 4, 2) := by decide +kernel
theorem dX5_succeeds_102 : decode cX5_succeeds 102 = .ok (.invokestatic 11, 3) := by decide +kernel
theorem dX5_succeeds_105 : decode cX5_succeeds 105 = .ok (.ifCond .eq 7, 3) := by decide +kernel
theorem dX5_succeeds_108 : decode cX5_succeeds 108 = .ok (.iconst 1, 1) := by decide +kernel
theorem dX5_succeeds_109 : decode cX5_succeeds 109 = .ok (.goto 4, 3) := by decide +kernel
theorem dX5_succeeds_112 : decode cX5_succeeds 112 = .ok (.iconst 0, 1) := by decide +kernel
theorem dX5_succeeds_113 : decode cX5_succeeds 113 = .ok (.ireturn, 1) := by decide +kernel
theorem dX5_succeeds_114 : decode cX5_succeeds 114 = .ok (.iload_n 2, 1) := by decide +kernel
theorem dX5_succeeds_115 : decode cX5_succeeds 115 = .ok (.ifCond .ne 20, 3) := by decide +kernel
theorem dX5_succeeds_118 : decode cX5_succeeds 118 = .ok (.iload_n 3, 1) := by decide +kernel
theorem dX5_succeeds_119 : decode cX5_succeeds 119 = .ok (.ifCond .ne 16, 3) := by decide +kernel
theorem dX5_succeeds_122 : decode cX5_succeeds 122 = .ok (.aload_n 0, 1) := by decide +kernel
theorem dX5_succeeds_123 : decode cX5_succeeds 123 = .ok (.iload 6, 2) := by decide +kernel
theorem dX5_succeeds_125 : decode cX5_succeeds 125 = .ok (.invokestatic 17, 3) := by decide +kernel
theorem dX5_succeeds_128 : decode cX5_succeeds 128 = .ok (.ifCond .eq 7, 3) := by decide +kernel
theorem dX5_succeeds_131 : decode cX5_succeeds 131 = .ok (.iconst 1, 1) := by decide +kernel
theorem dX5_succeeds_132 : decode cX5_succeeds 132 = .ok (.goto 4, 3) := by decide +kernel
theorem dX5_succeeds_135 : decode cX5_succeeds 135 = .ok (.iconst 0, 1) := by decide +kernel
theorem dX5_succeeds_136 : decode cX5_succeeds 136 = .ok (.ireturn, 1) := by decide +kernel
theorem dX5_succeeds_137 : decode cX5_succeeds 137 = .ok (.aload_n 0, 1) := by decide +kernel
theorem dX5_succeeds_138 : decode cX5_succeeds 138 = .ok (.iload_n 2, 1) := by decide +kernel
theorem dX5_succeeds_139 : decode cX5_succeeds 139 = .ok (.iload 6, 2) := by decide +kernel
theorem dX5_succeeds_141 : decode cX5_succeeds 141 = .ok (.iload_n 3, 1) := by decide +kernel
theorem dX5_succeeds_142 : decode cX5_succeeds 142 = .ok (.invokestatic 21, 3) := by decide +kernel
theorem dX5_succeeds_145 : decode cX5_succeeds 145 = .ok (.ireturn, 1) := by decide +kernel
theorem dX5_succeeds_146 : decode cX5_succeeds 146 = .ok (.iload_n 2, 1) := by decide +kernel
theorem dX5_succeeds_147 : decode cX5_succeeds 147 = .ok (.ifCond .ne 20, 3) := by decide +kernel
theorem dX5_succeeds_150 : decode cX5_succeeds 150 = .ok (.iload_n 3, 1) := by decide +kernel
theorem dX5_succeeds_151 : decode cX5_succeeds 151 = .ok (.ifCond .ne 16, 3) := by decide +kernel
theorem dX5_succeeds_154 : decode cX5_succeeds 154 = .ok (.aload_n 0, 1) := by decide +kernel
theorem dX5_succeeds_155 : decode cX5_succeeds 155 = .ok (.iload 6, 2) := by decide +kernel
theorem dX5_succeeds_157 : decode cX5_succeeds 157 = .ok (.invokestatic 24, 3) := by decide +kernel
theorem dX5_succeeds_160 : decode cX5_succeeds 160 = .ok (.ifCond .eq 7, 3) := by decide +kernel
theorem dX5_succeeds_163 : decode cX5_succeeds 163 = .ok (.iconst 1, 1) := by decide +kernel
theorem dX5_succeeds_164 : decode cX5_succeeds 164 = .ok (.goto 4, 3) := by decide +kernel
theorem dX5_succeeds_167 : decode cX5_succeeds 167 = .ok (.iconst 0, 1) := by decide +kernel
theorem dX5_succeeds_168 : decode cX5_succeeds 168 = .ok (.ireturn, 1) := by decide +kernel
theorem dX5_succeeds_169 : decode cX5_succeeds 169 = .ok (.iload_n 2, 1) := by decide +kernel
theorem dX5_succeeds_170 : decode cX5_succeeds 170 = .ok (.ifCond .ne 25, 3) := by decide +kernel
theorem dX5_succeeds_173 : decode cX5_succeeds 173 = .ok (.iload_n 3, 1) := by decide +kernel
theorem dX5_succeeds_174 : decode cX5_succeeds 174 = .ok (.ifCond .ne 21, 3) := by decide +kernel
theorem dX5_succeeds_177 : decode cX5_succeeds 177 = .ok (.iload 4, 2) := by decide +kernel
theorem dX5_succeeds_179 : decode cX5_succeeds 179 = .ok (.ifCond .ne 16, 3) := by decide +kernel
theorem dX5_succeeds_182 : decode cX5_succeeds 182 = .ok (.aload_n 0, 1) := by decide +kernel
theorem dX5_succeeds_183 : decode cX5_succeeds 183 = .ok (.iload 5, 2) := by decide +kernel
theorem dX5_succeeds_185 : decode cX5_succeeds 185 = .ok (.invokestatic 27, 3) := by decide +kernel
theorem dX5_succeeds_188 : decode cX5_succeeds 188 = .ok (.ifCond .eq 7, 3) := by decide +kernel
theorem dX5_succeeds_191 : decode cX5_succeeds 191 = .ok (.iconst 1, 1) := by decide +kernel
theorem dX5_succeeds_192 : decode cX5_succeeds 192 = .ok (.goto 4, 3) := by decide +kernel
theorem dX5_succeeds_195 : decode cX5_succeeds 195 = .ok (.iconst 0, 1) := by decide +kernel
theorem dX5_succeeds_196 : decode cX5_succeeds 196 = .ok (.ireturn, 1) := by decide +kernel
theorem dX5_succeeds_197 : decode cX5_succeeds 197 = .ok (.iload_n 2, 1) := by decide +kernel
theorem dX5_succeeds_198 : decode cX5_succeeds 198 = .ok (.ifCond .ne 25, 3) := by decide +kernel
theorem dX5_succeeds_201 : decode cX5_succeeds 201 = .ok (.iload_n 3, 1) := by decide +kernel
theorem dX5_succeeds_202 : decode cX5_succeeds 202 = .ok (.ifCond .ne 21, 3) := by decide +kernel
theorem dX5_succeeds_205 : decode cX5_succeeds 205 = .ok (.iload 4, 2) := by decide +kernel
theorem dX5_succeeds_207 : decode cX5_succeeds 207 = .ok (.ifCond .ne 16, 3) := by decide +kernel
theorem dX5_succeeds_210 : decode cX5_succeeds 210 = .ok (.aload_n 0, 1) := by decide +kernel
theorem dX5_succeeds_211 : decode cX5_succeeds 211 = .ok (.iload 5, 2) := by decide +kernel
theorem dX5_succeeds_213 : decode cX5_succeeds 213 = .ok (.invokestatic 32, 3) := by decide +kernel
theorem dX5_succeeds_216 : decode cX5_succeeds 216 = .ok (.ifCond .eq 7, 3) := by decide +kernel
theorem dX5_succeeds_219 : decode cX5_succeeds 219 = .ok (.iconst 1, 1) := by decide +kernel
theorem dX5_succeeds_220 : decode cX5_succeeds 220 = .ok (.goto 4, 3) := by decide +kernel
theorem dX5_succeeds_223 : decode cX5_succeeds 223 = .ok (.iconst 0, 1) := by decide +kernel
theorem dX5_succeeds_224 : decode cX5_succeeds 224 = .ok (.ireturn, 1) := by decide +kernel
theorem dX5_succeeds_225 : decode cX5_succeeds 225 = .ok (.iload_n 2, 1) := by decide +kernel
theorem dX5_succeeds_226 : decode cX5_succeeds 226 = .ok (.ifCond .ne 20, 3) := by decide +kernel
theorem dX5_succeeds_229 : decode cX5_succeeds 229 = .ok (.iload_n 3, 1) := by decide +kernel
theorem dX5_succeeds_230 : decode cX5_succeeds 230 = .ok (.ifCond .ne 16, 3) := by decide +kernel
theorem dX5_succeeds_233 : decode cX5_succeeds 233 = .ok (.aload_n 0, 1) := by decide +kernel
theorem dX5_succeeds_234 : decode cX5_succeeds 234 = .ok (.iload 6, 2) := by decide +kernel
theorem dX5_succeeds_236 : decode cX5_succeeds 236 = .ok (.invokestatic 35, 3) := by decide +kernel
theorem dX5_succeeds_239 : decode cX5_succeeds 239 = .ok (.ifCond .eq 7, 3) := by decide +kernel
theorem dX5_succeeds_242 : decode cX5_succeeds 242 = .ok (.iconst 1, 1) := by decide +kernel
theorem dX5_succeeds_243 : decode cX5_succeeds 243 = .ok (.goto 4, 3) := by decide +kernel
theorem dX5_succeeds_246 : decode cX5_succeeds 246 = .ok (.iconst 0, 1) := by decide +kernel
theorem dX5_succeeds_247 : decode cX5_succeeds 247 = .ok (.ireturn, 1) := by decide +kernel
theorem dX5_succeeds_248 : decode cX5_succeeds 248 = .ok (.aload_n 0, 1) := by decide +kernel
theorem dX5_succeeds_249 : decode cX5_succeeds 249 = .ok (.getfield 38, 3) := by decide +kernel
theorem dX5_succeeds_252 : decode cX5_succeeds 252 = .ok (.iconst 3, 1) := by decide +kernel
theorem dX5_succeeds_253 : decode cX5_succeeds 253 = .ok (.invokevirtual 44, 3) := by decide +kernel
theorem dX5_succeeds_256 : decode cX5_succeeds 256 = .ok (.iload_n 1, 1) := by decide +kernel
theorem dX5_succeeds_257 : decode cX5_succeeds 257 = .ok (.sipush 10000, 3) := by decide +kernel
theorem dX5_succeeds_260 : decode cX5_succeeds 260 = .ok (.irem, 1) := by decide +kernel
theorem dX5_succeeds_261 : decode cX5_succeeds 261 = .ok (.if_icmp .lt 7, 3) := by decide +kernel
theorem dX5_succeeds_264 : decode cX5_succeeds 264 = .ok (.iconst 1, 1) := by decide +kernel
theorem dX5_succeeds_265 : decode cX5_succeeds 265 = .ok (.goto 4, 3) := by decide +kernel
theorem dX5_succeeds_268 : decode cX5_succeeds 268 = .ok (.iconst 0, 1) := by decide +kernel
theorem dX5_succeeds_269 : decode cX5_succeeds 269 = .ok (.ireturn, 1) := by decide +kernel
theorem dX5_succeeds_270 : decode cX5_succeeds 270 = .ok (.iload_n 3, 1) := by decide +kernel
theorem dX5_succeeds_271 : decode cX5_succeeds 271 = .ok (.ifCond .ne 39, 3) := by decide +kernel
theorem dX5_succeeds_274 : decode cX5_succeeds 274 = .ok (.iload 4, 2) := by decide +kernel
theorem dX5_succeeds_276 : decode cX5_succeeds 276 = .ok (.ifCond .ne 34, 3) := by decide +kernel
theorem dX5_succeeds_279 : decode cX5_succeeds 279 = .ok (.aload_n 0, 1) := by decide +kernel
theorem dX5_succeeds_280 : decode cX5_succeeds 280 = .ok (.getfield 50, 3) := by decide +kernel
theorem dX5_succeeds_283 : decode cX5_succeeds 283 = .ok (.iload_n 2, 1) := by decide +kernel
theorem dX5_succeeds_284 : decode cX5_succeeds 284 = .ok (.invokevirtual 53, 3) := by decide +kernel
theorem dX5_succeeds_287 : decode cX5_succeeds 287 = .ok (.ifCond .eq 23, 3) := by decide +kernel
theorem dX5_succeeds_290 : decode cX5_succeeds 290 = .ok (.aload_n 0, 1) := by decide +kernel
theorem dX5_succeeds_291 : decode cX5_succeeds 291 = .ok (.getfield 57, 3) := by decide +kernel
theorem dX5_succeeds_294 : decode cX5_succeeds 294 = .ok (.iconst 0, 1) := by decide +kernel
theorem dX5_succeeds_295 : decode cX5_succeeds 295 = .ok (.iload_n 2, 1) := by decide +kernel
theorem dX5_succeeds_296 : decode cX5_succeeds 296 = .ok (.iconst 3, 1) := by decide +kernel
theorem dX5_succeeds_297 : decode cX5_succeeds 297 = .ok (.iconst 3, 1) := by decide +kernel
theorem dX5_succeeds_298 : decode cX5_succeeds 298 = .ok (.invokevirtual 60, 3) := by decide +kernel
theorem dX5_succeeds_301 : decode cX5_succeeds 301 = .ok (.iload 5, 2) := by decide +kernel
theorem dX5_succeeds_303 : decode cX5_succeeds 303 = .ok (.if_icmp .ne 7, 3) := by decide +kernel
theorem dX5_succeeds_306 : decode cX5_succeeds 306 = .ok (.iconst 1, 1) := by decide +kernel
theorem dX5_succeeds_307 : decode cX5_succeeds 307 = .ok (.goto 4, 3) := by decide +kernel
theorem dX5_succeeds_310 : decode cX5_succeeds 310 = .ok (.iconst 0, 1) := by decide +kernel
theorem dX5_succeeds_311 : decode cX5_succeeds 311 = .ok (.ireturn, 1) := by decide +kernel
theorem dX5_succeeds_312 : decode cX5_succeeds 312 = .ok (.iconst 0, 1) := by decide +kernel
theorem dX5_succeeds_313 : decode cX5_succeeds 313 = .ok (.ireturn, 1) := by decide +kernel
theorem dX5_begins_0 : decode cX5_begins 0 = .ok (.iload_n 1, 1) := by decide +kernel
theorem dX5_begins_1 : decode cX5_begins 1 = .ok (.iconst 1, 1) := by decide +kernel
theorem dX5_begins_2 : decode cX5_begins 2 = .ok (.if_icmp .le 5, 3) := by decide +kernel
theorem dX5_begins_5 : decode cX5_begins 5 = .ok (.iconst 0, 1) := by decide +kernel
theorem dX5_begins_6 : decode cX5_begins 6 = .ok (.ireturn, 1) := by decide +kernel
theorem dX5_begins_7 : decode cX5_begins 7 = .ok (.aload_n 0, 1) := by decide +kernel
theorem dX5_begins_8 : decode cX5_begins 8 = .ok (.iload_n 1, 1) := by decide +kernel
theorem dX5_begins_9 : decode cX5_begins 9 = .ok (.iconst 1, 1) := by decide +kernel
theorem dX5_begins_10 : decode cX5_begins 10 = .ok (.if_icmp .ne 7, 3) := by decide +kernel
theorem dX5_begins_13 : decode cX5_begins 13 = .ok (.iconst 1, 1) := by decide +kernel
theorem dX5_begins_14 : decode cX5_begins 14 = .ok (.goto 4, 3) := by decide +kernel
theorem dX5_begins_17 : decode cX5_begins 17 = .ok (.iconst 0, 1) := by decide +kernel
theorem dX5_begins_18 : decode cX5_begins 18 = .ok (.invokevirtual 64, 3) := by decide +kernel
theorem dX5_begins_21 : decode cX5_begins 21 = .ok (.pop, 1) := by decide +kernel
theorem dX5_begins_22 : decode cX5_begins 22 = .ok (.iconst 1, 1) := by decide +kernel
theorem dX5_begins_23 : decode cX5_begins 23 = .ok (.ireturn, 1) := by decide +kernel
theorem dX5_bounds_0 : decode cX5_bounds 0 = .ok (.aload_n 0, 1) := by decide +kernel
theorem dX5_bounds_1 : decode cX5_bounds 1 = .ok (.iload_n 1, 1) := by decide +kernel
theorem dX5_bounds_2 : decode cX5_bounds 2 = .ok (.putfield 68, 3) := by decide +kernel
theorem dX5_bounds_5 : decode cX5_bounds 5 = .ok (.iconst 1, 1) := by decide +kernel
theorem dX5_bounds_6 : decode cX5_bounds 6 = .ok (.ireturn, 1) := by decide +kernel
theorem dX6_init_0 : decode cX6_init 0 = .ok (.aload_n 0, 1) := by decide +kernel
theorem dX6_init_1 : decode cX6_init 1 = .ok (.invokespecial 3, 3) := by decide +kernel
theorem dX6_init_4 : decode cX6_init 4 = .ok (.aload_n 0, 1) := by decide +kernel
theorem dX6_init_5 : decode cX6_init 5 = .ok (.iconst 2, 1) := by decide +kernel
theorem dX6_init_6 : decode cX6_init 6 = .ok (.anewarray 9, 3) := by decide +kernel
theorem dX6_init_9 : decode cX6_init 9 = .ok (.putfield 11, 3) := by decide +kernel
theorem dX6_init_12 : decode cX6_init 12 = .ok (.aload_n 0, 1) := by decide +kernel
theorem dX6_init_13 : decode cX6_init 13 = .ok (.iconst 2, 1) := by decide +kernel
theorem dX6_init_14 : decode cX6_init 14 = .ok (.newarray .boolean, 2) := by decide +kernel
theorem dX6_init_16 : decode cX6_init 16 = .ok (.putfield 17, 3) := by decide +kernel
theorem dX6_init_19 : decode cX6_init 19 = .ok (.iconst 0, 1) := by decide +kernel
theorem dX6_init_20 : decode cX6_init 20 = .ok (.istore_n 1, 1) := by decide +kernel
theorem dX6_init_21 : decode cX6_init 21 = .ok (.iload_n 1, 1) := by decide +kernel
theorem dX6_init_22 : decode cX6_init 22 = .ok (.aload_n 0, 1) := by decide +kernel
theorem dX6_init_23 : decode cX6_init 23 = .ok (.getfield 11, 3) := by decide +kernel
theorem dX6_init_26 : decode cX6_init 26 = .ok (.arraylength, 1) := by decide +kernel
theorem dX6_init_27 : decode cX6_init 27 = .ok (.if_icmp .ge 22, 3) := by decide +kernel
theorem dX6_init_30 : decode cX6_init 30 = .ok (.aload_n 0, 1) := by decide +kernel
theorem dX6_init_31 : decode cX6_init 31 = .ok (.getfield 11, 3) := by decide +kernel
theorem dX6_init_34 : decode cX6_init 34 = .ok (.iload_n 1, 1) := by decide +kernel
theorem dX6_init_35 : decode cX6_init 35 = .ok (.new 9, 3) := by decide +kernel
theorem dX6_init_38 : decode cX6_init 38 = .ok (.dup, 1) := by decide +kernel
theorem dX6_init_39 : decode cX6_init 39 = .ok (.invokespecial 21, 3) := by decide +kernel
theorem dX6_init_42 : decode cX6_init 42 = .ok (.aastore, 1) := by decide +kernel
theorem dX6_init_43 : decode cX6_init 43 = .ok (.iinc 1 1, 3) := by decide +kernel
theorem dX6_init_46 : decode cX6_init 46 = .ok (.goto (-25), 3) := by decide +kernel
theorem dX6_init_49 : decode cX6_init 49 = .ok (.return_, 1) := by decide +kernel
theorem dX6_emptyAll_0 : decode cX6_emptyAll 0 = .ok (.iconst 0, 1) := by decide +kernel
theorem dX6_emptyAll_1 : decode cX6_emptyAll 1 = .ok (.istore_n 1, 1) := by decide +kernel
theorem dX6_emptyAll_2 : decode cX6_emptyAll 2 = .ok (.iload_n 1, 1) := by decide +kernel
theorem dX6_emptyAll_3 : decode cX6_emptyAll 3 = .ok (.aload_n 0, 1) := by decide +kernel
theorem dX6_emptyAll_4 : decode cX6_emptyAll 4 = .ok (.getfield 17, 3) := by decide +kernel
theorem dX6_emptyAll_7 : decode cX6_emptyAll 7 = .ok (.arraylength, 1) := by decide +kernel
theorem dX6_emptyAll_8 : decode cX6_emptyAll 8 = .ok (.if_icmp .ge 16, 3) := by decide +kernel
theorem dX6_emptyAll_11 : decode cX6_emptyAll 11 = .ok (.aload_n 0, 1) := by decide +kernel
theorem dX6_emptyAll_12 : decode cX6_emptyAll 12 = .ok (.getfield 17, 3) := by decide +kernel
theorem dX6_emptyAll_15 : decode cX6_emptyAll 15 = .ok (.iload_n 1, 1) := by decide +kernel
theorem dX6_emptyAll_16 : decode cX6_emptyAll 16 = .ok (.iconst 0, 1) := by decide +kernel
theorem dX6_emptyAll_17 : decode cX6_emptyAll 17 = .ok (.bastore, 1) := by decide +kernel
theorem dX6_emptyAll_18 : decode cX6_emptyAll 18 = .ok (.iinc 1 1, 3) := by decide +kernel
theorem dX6_emptyAll_21 : decode cX6_emptyAll 21 = .ok (.goto (-19), 3) := by decide +kernel
theorem dX6_emptyAll_24 : decode cX6_emptyAll 24 = .ok (.return_, 1) := by decide +kernel
theorem dX6_isFilled_0 : decode cX6_isFilled 0 = .ok (.iload_n 1, 1) := by decide +kernel
theorem dX6_isFilled_1 : decode cX6_isFilled 1 = .ok (.ifCond .lt 25, 3) := by decide +kernel
theorem dX6_isFilled_4 : decode cX6_isFilled 4 = .ok (.iload_n 1, 1) := by decide +kernel
theorem dX6_isFilled_5 : decode cX6_isFilled 5 = .ok (.aload_n 0, 1) := by decide +kernel
theorem dX6_isFilled_6 : decode cX6_isFilled 6 = .ok (.getfield 17, 3) := by decide +kernel
theorem dX6_isFilled_9 : decode cX6_isFilled 9 = .ok (.arraylength, 1) := by decide +kernel
theorem dX6_isFilled_10 : decode cX6_isFilled 10 = .ok (.if_icmp .ge 16, 3) := by decide +kernel
theorem dX6_isFilled_13 : decode cX6_isFilled 13 = .ok (.aload_n 0, 1) := by decide +kernel
theorem dX6_isFilled_14 : decode cX6_isFilled 14 = .ok (.getfield 17, 3) := by decide +kernel
theorem dX6_isFilled_17 : decode cX6_isFilled 17 = .ok (.iload_n 1, 1) := by decide +kernel
theorem dX6_isFilled_18 : decode cX6_isFilled 18 = .ok (.baload, 1) := by decide +kernel
theorem dX6_isFilled_19 : decode cX6_isFilled 19 = .ok (.ifCond .eq 7, 3) := by decide +kernel
theorem dX6_isFilled_22 : decode cX6_isFilled 22 = .ok (.iconst 1, 1) := by decide +kernel
theorem dX6_isFilled_23 : decode cX6_isFilled 23 = .ok (.goto 4, 3) := by decide +kernel
theorem dX6_isFilled_26 : decode cX6_isFilled 26 = .ok (.iconst 0, 1) := by decide +kernel
theorem dX6_isFilled_27 : decode cX6_isFilled 27 = .ok (.ireturn, 1) := by decide +kernel
theorem dX6_store_0 : decode cX6_store 0 = .ok (.iload_n 1, 1) := by decide +kernel
theorem dX6_store_1 : decode cX6_store 1 = .ok (.ifCond .lt 38, 3) := by decide +kernel
theorem dX6_store_4 : decode cX6_store 4 = .ok (.iload_n 1, 1) := by decide +kernel
theorem dX6_store_5 : decode cX6_store 5 = .ok (.aload_n 0, 1) := by decide +kernel
theorem dX6_store_6 : decode cX6_store 6 = .ok (.getfield 11, 3) := by decide +kernel
theorem dX6_store_9 : decode cX6_store 9 = .ok (.arraylength, 1) := by decide +kernel
theorem dX6_store_10 : decode cX6_store 10 = .ok (.if_icmp .ge 29, 3) := by decide +kernel
theorem dX6_store_13 : decode cX6_store 13 = .ok (.iload_n 1, 1) := by decide +kernel
theorem dX6_store_14 : decode cX6_store 14 = .ok (.aload_n 0, 1) := by decide +kernel
theorem dX6_store_15 : decode cX6_store 15 = .ok (.getfield 17, 3) := by decide +kernel
theorem dX6_store_18 : decode cX6_store 18 = .ok (.arraylength, 1) := by decide +kernel
theorem dX6_store_19 : decode cX6_store 19 = .ok (.if_icmp .ge 20, 3) := by decide +kernel
theorem dX6_store_22 : decode cX6_store 22 = .ok (.aload_n 2, 1) := by decide +kernel
theorem dX6_store_23 : decode cX6_store 23 = .ok (.aload_n 0, 1) := by decide +kernel
theorem dX6_store_24 : decode cX6_store 24 = .ok (.getfield 11, 3) := by decide +kernel
theorem dX6_store_27 : decode cX6_store 27 = .ok (.iload_n 1, 1) := by decide +kernel
theorem dX6_store_28 : decode cX6_store 28 = .ok (.aaload, 1) := by decide +kernel
theorem dX6_store_29 : decode cX6_store 29 = .ok (.invokestatic 22, 3) := by decide +kernel
theorem dX6_store_32 : decode cX6_store 32 = .ok (.aload_n 0, 1) := by decide +kernel
theorem dX6_store_33 : decode cX6_store 33 = .ok (.getfield 17, 3) := by decide +kernel
theorem dX6_store_36 : decode cX6_store 36 = .ok (.iload_n 1, 1) := by decide +kernel
theorem dX6_store_37 : decode cX6_store 37 = .ok (.iconst 1, 1) := by decide +kernel
theorem dX6_store_38 : decode cX6_store 38 = .ok (.bastore, 1) := by decide +kernel
theorem dX6_store_39 : decode cX6_store 39 = .ok (.return_, 1) := by decide +kernel
theorem dX6_fetch_0 : decode cX6_fetch 0 = .ok (.iload_n 1, 1) := by decide +kernel
theorem dX6_fetch_1 : decode cX6_fetch 1 = .ok (.ifCond .lt 22, 3) := by decide +kernel
theorem dX6_fetch_4 : decode cX6_fetch 4 = .ok (.iload_n 1, 1) := by decide +kernel
theorem dX6_fetch_5 : decode cX6_fetch 5 = .ok (.aload_n 0, 1) := by decide +kernel
theorem dX6_fetch_6 : decode cX6_fetch 6 = .ok (.getfield 11, 3) := by decide +kernel
theorem dX6_fetch_9 : decode cX6_fetch 9 = .ok (.arraylength, 1) := by decide +kernel
theorem dX6_fetch_10 : decode cX6_fetch 10 = .ok (.if_icmp .ge 13, 3) := by decide +kernel
theorem dX6_fetch_13 : decode cX6_fetch 13 = .ok (.aload_n 0, 1) := by decide +kernel
theorem dX6_fetch_14 : decode cX6_fetch 14 = .ok (.getfield 11, 3) := by decide +kernel
theorem dX6_fetch_17 : decode cX6_fetch 17 = .ok (.iload_n 1, 1) := by decide +kernel
theorem dX6_fetch_18 : decode cX6_fetch 18 = .ok (.aaload, 1) := by decide +kernel
theorem dX6_fetch_19 : decode cX6_fetch 19 = .ok (.aload_n 2, 1) := by decide +kernel
theorem dX6_fetch_20 : decode cX6_fetch 20 = .ok (.invokestatic 22, 3) := by decide +kernel
theorem dX6_fetch_23 : decode cX6_fetch 23 = .ok (.return_, 1) := by decide +kernel
theorem dX7_playRound_0 : decode cX7_playRound 0 = .ok (.iload_n 1, 1) := by decide +kernel
theorem dX7_playRound_1 : decode cX7_playRound 1 = .ok (.bipush 8, 2) := by decide +kernel
theorem dX7_playRound_3 : decode cX7_playRound 3 = .ok (.idiv, 1) := by decide +kernel
theorem dX7_playRound_4 : decode cX7_playRound 4 = .ok (.aload_n 0, 1) := by decide +kernel
theorem dX7_playRound_5 : decode cX7_playRound 5 = .ok (.getfield 9, 3) := by decide +kernel
theorem dX7_playRound_8 : decode cX7_playRound 8 = .ok (.invokevirtual 15, 3) := by decide +kernel
theorem dX7_playRound_11 : decode cX7_playRound 11 = .ok (.invokestatic 21, 3) := by decide +kernel
theorem dX7_playRound_14 : decode cX7_playRound 14 = .ok (.istore_n 2, 1) := by decide +kernel
theorem dX7_playRound_15 : decode cX7_playRound 15 = .ok (.iload_n 1, 1) := by decide +kernel
theorem dX7_playRound_16 : decode cX7_playRound 16 = .ok (.bipush 8, 2) := by decide +kernel
theorem dX7_playRound_18 : decode cX7_playRound 18 = .ok (.irem, 1) := by decide +kernel
theorem dX7_playRound_19 : decode cX7_playRound 19 = .ok (.tableswitch 104 0 6 #[41, 41, 41, 72, 72, 89, 96], 41) := by decide +kernel
theorem dX7_playRound_60 : decode cX7_playRound 60 = .ok (.aload_n 0, 1) := by decide +kernel
theorem dX7_playRound_61 : decode cX7_playRound 61 = .ok (.iload_n 2, 1) := by decide +kernel
theorem dX7_playRound_62 : decode cX7_playRound 62 = .ok (.iload_n 1, 1) := by decide +kernel
theorem dX7_playRound_63 : decode cX7_playRound 63 = .ok (.bipush 64, 2) := by decide +kernel
theorem dX7_playRound_65 : decode cX7_playRound 65 = .ok (.idiv, 1) := by decide +kernel
theorem dX7_playRound_66 : decode cX7_playRound 66 = .ok (.aload_n 0, 1) := by decide +kernel
theorem dX7_playRound_67 : decode cX7_playRound 67 = .ok (.getfield 27, 3) := by decide +kernel
theorem dX7_playRound_70 : decode cX7_playRound 70 = .ok (.invokevirtual 15, 3) := by decide +kernel
theorem dX7_playRound_73 : decode cX7_playRound 73 = .ok (.invokestatic 21, 3) := by decide +kernel
theorem dX7_playRound_76 : decode cX7_playRound 76 = .ok (.iload_n 1, 1) := by decide +kernel
theorem dX7_playRound_77 : decode cX7_playRound 77 = .ok (.sipush 1024, 3) := by decide +kernel
theorem dX7_playRound_80 : decode cX7_playRound 80 = .ok (.idiv, 1) := by decide +kernel
theorem dX7_playRound_81 : decode cX7_playRound 81 = .ok (.bipush 10, 2) := by decide +kernel
theorem dX7_playRound_83 : decode cX7_playRound 83 = .ok (.irem, 1) := by decide +kernel
theorem dX7_playRound_84 : decode cX7_playRound 84 = .ok (.invokestatic 30, 3) := by decide +kernel
theorem dX7_playRound_87 : decode cX7_playRound 87 = .ok (.pop, 1) := by decide +kernel
theorem dX7_playRound_88 : decode cX7_playRound 88 = .ok (.goto 54, 3) := by decide +kernel
theorem dX7_playRound_91 : decode cX7_playRound 91 = .ok (.aload_n 0, 1) := by decide +kernel
theorem dX7_playRound_92 : decode cX7_playRound 92 = .ok (.aload_n 0, 1) := by decide +kernel
theorem dX7_playRound_93 : decode cX7_playRound 93 = .ok (.getfield 36, 3) := by decide +kernel
theorem dX7_playRound_96 : decode cX7_playRound 96 = .ok (.iconst 3, 1) := by decide +kernel
theorem dX7_playRound_97 : decode cX7_playRound 97 = .ok (.iconst 0, 1) := by decide +kernel
theorem dX7_playRound_98 : decode cX7_playRound 98 = .ok (.invokevirtual 39, 3) := by decide +kernel
theorem dX7_playRound_101 : decode cX7_playRound 101 = .ok (.invokestatic 42, 3) := by decide +kernel
theorem dX7_playRound_104 : decode cX7_playRound 104 = .ok (.pop, 1) := by decide +kernel
theorem dX7_playRound_105 : decode cX7_playRound 105 = .ok (.goto 37, 3) := by decide +kernel
theorem dX7_playRound_108 : decode cX7_playRound 108 = .ok (.aload_n 0, 1) := by decide +kernel
theorem dX7_playRound_109 : decode cX7_playRound 109 = .ok (.invokestatic 46, 3) := by decide +kernel
theorem dX7_playRound_112 : decode cX7_playRound 112 = .ok (.goto 30, 3) := by decide +kernel
theorem dX7_playRound_115 : decode cX7_playRound 115 = .ok (.aload_n 0, 1) := by decide +kernel
theorem dX7_playRound_116 : decode cX7_playRound 116 = .ok (.iload_n 2, 1) := by decide +kernel
theorem dX7_playRound_117 : decode cX7_playRound 117 = .ok (.invokestatic 50, 3) := by decide +kernel
theorem dX7_playRound_120 : decode cX7_playRound 120 = .ok (.goto 22, 3) := by decide +kernel
theorem dX7_playRound_123 : decode cX7_playRound 123 = .ok (.aload_n 0, 1) := by decide +kernel
theorem dX7_playRound_124 : decode cX7_playRound 124 = .ok (.iload_n 1, 1) := by decide +kernel
theorem dX7_playRound_125 : decode cX7_playRound 125 = .ok (.bipush 8, 2) := by decide +kernel
theorem dX7_playRound_127 : decode cX7_playRound 127 = .ok (.idiv, 1) := by decide +kernel
theorem dX7_playRound_128 : decode cX7_playRound 128 = .ok (.iconst 4, 1) := by decide +kernel
theorem dX7_playRound_129 : decode cX7_playRound 129 = .ok (.irem, 1) := by decide +kernel
theorem dX7_playRound_130 : decode cX7_playRound 130 = .ok (.ifCond .ne 7, 3) := by decide +kernel
theorem dX7_playRound_133 : decode cX7_playRound 133 = .ok (.iconst 1, 1) := by decide +kernel
theorem dX7_playRound_134 : decode cX7_playRound 134 = .ok (.goto 4, 3) := by decide +kernel
theorem dX7_playRound_137 : decode cX7_playRound 137 = .ok (.iconst 0, 1) := by decide +kernel
theorem dX7_playRound_138 : decode cX7_playRound 138 = .ok (.invokevirtual 54, 3) := by decide +kernel
theorem dX7_playRound_141 : decode cX7_playRound 141 = .ok (.pop, 1) := by decide +kernel
theorem dX7_playRound_142 : decode cX7_playRound 142 = .ok (.return_, 1) := by decide +kernel
theorem dX7_remainder_0 : decode cX7_remainder 0 = .ok (.iload_n 1, 1) := by decide +kernel
theorem dX7_remainder_1 : decode cX7_remainder 1 = .ok (.ifCond .le 9, 3) := by decide +kernel
theorem dX7_remainder_4 : decode cX7_remainder 4 = .ok (.iload_n 0, 1) := by decide +kernel
theorem dX7_remainder_5 : decode cX7_remainder 5 = .ok (.iload_n 1, 1) := by decide +kernel
theorem dX7_remainder_6 : decode cX7_remainder 6 = .ok (.irem, 1) := by decide +kernel
theorem dX7_remainder_7 : decode cX7_remainder 7 = .ok (.goto 5, 3) := by decide +kernel
theorem dX7_remainder_10 : decode cX7_remainder 10 = .ok (.bipush (-9), 2) := by decide +kernel
theorem dX7_remainder_12 : decode cX7_remainder 12 = .ok (.ireturn, 1) := by decide +kernel
theorem dX7_setLowest_0 : decode cX7_setLowest 0 = .ok (.iconst 0, 1) := by decide +kernel
theorem dX7_setLowest_1 : decode cX7_setLowest 1 = .ok (.istore_n 1, 1) := by decide +kernel
theorem dX7_setLowest_2 : decode cX7_setLowest 2 = .ok (.iload_n 1, 1) := by decide +kernel
theorem dX7_setLowest_3 : decode cX7_setLowest 3 = .ok (.aload_n 0, 1) := by decide +kernel
theorem dX7_setLowest_4 : decode cX7_setLowest 4 = .ok (.getfield 36, 3) := by decide +kernel
theorem dX7_setLowest_7 : decode cX7_setLowest 7 = .ok (.invokevirtual 15, 3) := by decide +kernel
theorem dX7_setLowest_10 : decode cX7_setLowest 10 = .ok (.if_icmp .ge 24, 3) := by decide +kernel
theorem dX7_setLowest_13 : decode cX7_setLowest 13 = .ok (.aload_n 0, 1) := by decide +kernel
theorem dX7_setLowest_14 : decode cX7_setLowest 14 = .ok (.iload_n 1, 1) := by decide +kernel
theorem dX7_setLowest_15 : decode cX7_setLowest 15 = .ok (.invokevirtual 58, 3) := by decide +kernel
theorem dX7_setLowest_18 : decode cX7_setLowest 18 = .ok (.ifCond .ne 10, 3) := by decide +kernel
theorem dX7_setLowest_21 : decode cX7_setLowest 21 = .ok (.aload_n 0, 1) := by decide +kernel
theorem dX7_setLowest_22 : decode cX7_setLowest 22 = .ok (.iload_n 1, 1) := by decide +kernel
theorem dX7_setLowest_23 : decode cX7_setLowest 23 = .ok (.invokevirtual 62, 3) := by decide +kernel
theorem dX7_setLowest_26 : decode cX7_setLowest 26 = .ok (.pop, 1) := by decide +kernel
theorem dX7_setLowest_27 : decode cX7_setLowest 27 = .ok (.return_, 1) := by decide +kernel
theorem dX7_setLowest_28 : decode cX7_setLowest 28 = .ok (.iinc 1 1, 3) := by decide +kernel
theorem dX7_setLowest_31 : decode cX7_setLowest 31 = .ok (.goto (-29), 3) := by decide +kernel
theorem dX7_setLowest_34 : decode cX7_setLowest 34 = .ok (.return_, 1) := by decide +kernel
theorem dX7_recutLowest_0 : decode cX7_recutLowest 0 = .ok (.aload_n 0, 1) := by decide +kernel
theorem dX7_recutLowest_1 : decode cX7_recutLowest 1 = .ok (.getfield 36, 3) := by decide +kernel
theorem dX7_recutLowest_4 : decode cX7_recutLowest 4 = .ok (.iconst 3, 1) := by decide +kernel
theorem dX7_recutLowest_5 : decode cX7_recutLowest 5 = .ok (.iconst 2, 1) := by decide +kernel
theorem dX7_recutLowest_6 : decode cX7_recutLowest 6 = .ok (.invokevirtual 39, 3) := by decide +kernel
theorem dX7_recutLowest_9 : decode cX7_recutLowest 9 = .ok (.istore_n 2, 1) := by decide +kernel
theorem dX7_recutLowest_10 : decode cX7_recutLowest 10 = .ok (.aload_n 0, 1) := by decide +kernel
theorem dX7_recutLowest_11 : decode cX7_recutLowest 11 = .ok (.iload_n 1, 1) := by decide +kernel
theorem dX7_recutLowest_12 : decode cX7_recutLowest 12 = .ok (.iload_n 2, 1) := by decide +kernel
theorem dX7_recutLowest_13 : decode cX7_recutLowest 13 = .ok (.aload_n 0, 1) := by decide +kernel
theorem dX7_recutLowest_14 : decode cX7_recutLowest 14 = .ok (.iload_n 2, 1) := by decide +kernel
theorem dX7_recutLowest_15 : decode cX7_recutLowest 15 = .ok (.invokevirtual 65, 3) := by decide +kernel
theorem dX7_recutLowest_18 : decode cX7_recutLowest 18 = .ok (.invokestatic 68, 3) := by decide +kernel
theorem dX7_recutLowest_21 : decode cX7_recutLowest 21 = .ok (.ifCond .ne 9, 3) := by decide +kernel
theorem dX7_recutLowest_24 : decode cX7_recutLowest 24 = .ok (.aload_n 0, 1) := by decide +kernel
theorem dX7_recutLowest_25 : decode cX7_recutLowest 25 = .ok (.iload_n 2, 1) := by decide +kernel
theorem dX7_recutLowest_26 : decode cX7_recutLowest 26 = .ok (.invokestatic 71, 3) := by decide +kernel
theorem dX7_recutLowest_29 : decode cX7_recutLowest 29 = .ok (.pop, 1) := by decide +kernel
theorem dX7_recutLowest_30 : decode cX7_recutLowest 30 = .ok (.return_, 1) := by decide +kernel
theorem dX8_init_0 : decode cX8_init 0 = .ok (.aload_n 0, 1) := by decide +kernel
theorem dX8_init_1 : decode cX8_init 1 = .ok (.invokespecial 3, 3) := by decide +kernel
theorem dX8_init_4 : decode cX8_init 4 = .ok (.aload_n 0, 1) := by decide +kernel
theorem dX8_init_5 : decode cX8_init 5 = .ok (.aload_n 1, 1) := by decide +kernel
theorem dX8_init_6 : decode cX8_init 6 = .ok (.putfield 9, 3) := by decide +kernel
theorem dX8_init_9 : decode cX8_init 9 = .ok (.aload_n 0, 1) := by decide +kernel
theorem dX8_init_10 : decode cX8_init 10 = .ok (.iload_n 2, 1) := by decide +kernel
theorem dX8_init_11 : decode cX8_init 11 = .ok (.putfield 15, 3) := by decide +kernel
theorem dX8_init_14 : decode cX8_init 14 = .ok (.aload_n 0, 1) := by decide +kernel
theorem dX8_init_15 : decode cX8_init 15 = .ok (.iload_n 3, 1) := by decide +kernel
theorem dX8_init_16 : decode cX8_init 16 = .ok (.putfield 19, 3) := by decide +kernel
theorem dX8_init_19 : decode cX8_init 19 = .ok (.return_, 1) := by decide +kernel
theorem dX8_size_0 : decode cX8_size 0 = .ok (.aload_n 0, 1) := by decide +kernel
theorem dX8_size_1 : decode cX8_size 1 = .ok (.getfield 22, 3) := by decide +kernel
theorem dX8_size_4 : decode cX8_size 4 = .ok (.ireturn, 1) := by decide +kernel
theorem dX8_has_0 : decode cX8_has 0 = .ok (.iload_n 1, 1) := by decide +kernel
theorem dX8_has_1 : decode cX8_has 1 = .ok (.ifCond .lt 15, 3) := by decide +kernel
theorem dX8_has_4 : decode cX8_has 4 = .ok (.iload_n 1, 1) := by decide +kernel
theorem dX8_has_5 : decode cX8_has 5 = .ok (.aload_n 0, 1) := by decide +kernel
theorem dX8_has_6 : decode cX8_has 6 = .ok (.getfield 22, 3) := by decide +kernel
theorem dX8_has_9 : decode cX8_has 9 = .ok (.if_icmp .ge 7, 3) := by decide +kernel
theorem dX8_has_12 : decode cX8_has 12 = .ok (.iconst 1, 1) := by decide +kernel
theorem dX8_has_13 : decode cX8_has 13 = .ok (.goto 4, 3) := by decide +kernel
theorem dX8_has_16 : decode cX8_has 16 = .ok (.iconst 0, 1) := by decide +kernel
theorem dX8_has_17 : decode cX8_has 17 = .ok (.ireturn, 1) := by decide +kernel
theorem dX8_hasRoom_0 : decode cX8_hasRoom 0 = .ok (.aload_n 0, 1) := by decide +kernel
theorem dX8_hasRoom_1 : decode cX8_hasRoom 1 = .ok (.getfield 22, 3) := by decide +kernel
theorem dX8_hasRoom_4 : decode cX8_hasRoom 4 = .ok (.aload_n 0, 1) := by decide +kernel
theorem dX8_hasRoom_5 : decode cX8_hasRoom 5 = .ok (.getfield 19, 3) := by decide +kernel
theorem dX8_hasRoom_8 : decode cX8_hasRoom 8 = .ok (.if_icmp .ge 7, 3) := by decide +kernel
theorem dX8_hasRoom_11 : decode cX8_hasRoom 11 = .ok (.iconst 1, 1) := by decide +kernel
theorem dX8_hasRoom_12 : decode cX8_hasRoom 12 = .ok (.goto 4, 3) := by decide +kernel
theorem dX8_hasRoom_15 : decode cX8_hasRoom 15 = .ok (.iconst 0, 1) := by decide +kernel
theorem dX8_hasRoom_16 : decode cX8_hasRoom 16 = .ok (.ireturn, 1) := by decide +kernel
theorem dX8_removeAll_0 : decode cX8_removeAll 0 = .ok (.aload_n 0, 1) := by decide +kernel
theorem dX8_removeAll_1 : decode cX8_removeAll 1 = .ok (.iconst 0, 1) := by decide +kernel
theorem dX8_removeAll_2 : decode cX8_removeAll 2 = .ok (.putfield 22, 3) := by decide +kernel
theorem dX8_removeAll_5 : decode cX8_removeAll 5 = .ok (.return_, 1) := by decide +kernel
theorem dX8_addRow_0 : decode cX8_addRow 0 = .ok (.aload_n 0, 1) := by decide +kernel
theorem dX8_addRow_1 : decode cX8_addRow 1 = .ok (.invokevirtual 25, 3) := by decide +kernel
theorem dX8_addRow_4 : decode cX8_addRow 4 = .ok (.ifCond .ne 6, 3) := by decide +kernel
theorem dX8_addRow_7 : decode cX8_addRow 7 = .ok (.bipush (-9), 2) := by decide +kernel
theorem dX8_addRow_9 : decode cX8_addRow 9 = .ok (.ireturn, 1) := by decide +kernel
theorem dX8_addRow_10 : decode cX8_addRow 10 = .ok (.aload_n 0, 1) := by decide +kernel
theorem dX8_addRow_11 : decode cX8_addRow 11 = .ok (.dup, 1) := by decide +kernel
theorem dX8_addRow_12 : decode cX8_addRow 12 = .ok (.getfield 22, 3) := by decide +kernel
theorem dX8_addRow_15 : decode cX8_addRow 15 = .ok (.iconst 1, 1) := by decide +kernel
theorem dX8_addRow_16 : decode cX8_addRow 16 = .ok (.iadd, 1) := by decide +kernel
theorem dX8_addRow_17 : decode cX8_addRow 17 = .ok (.putfield 22, 3) := by decide +kernel
theorem dX8_addRow_20 : decode cX8_addRow 20 = .ok (.aload_n 0, 1) := by decide +kernel
theorem dX8_addRow_21 : decode cX8_addRow 21 = .ok (.getfield 22, 3) := by decide +kernel
theorem dX8_addRow_24 : decode cX8_addRow 24 = .ok (.iconst 1, 1) := by decide +kernel
theorem dX8_addRow_25 : decode cX8_addRow 25 = .ok (.isub, 1) := by decide +kernel
theorem dX8_addRow_26 : decode cX8_addRow 26 = .ok (.ireturn, 1) := by decide +kernel
theorem dX8_get_0 : decode cX8_get 0 = .ok (.iload_n 1, 1) := by decide +kernel
theorem dX8_get_1 : decode cX8_get 1 = .ok (.ifCond .lt 23, 3) := by decide +kernel
theorem dX8_get_4 : decode cX8_get 4 = .ok (.iload_n 1, 1) := by decide +kernel
theorem dX8_get_5 : decode cX8_get 5 = .ok (.aload_n 0, 1) := by decide +kernel
theorem dX8_get_6 : decode cX8_get 6 = .ok (.getfield 22, 3) := by decide +kernel
theorem dX8_get_9 : decode cX8_get 9 = .ok (.if_icmp .ge 15, 3) := by decide +kernel
theorem dX8_get_12 : decode cX8_get 12 = .ok (.iload_n 2, 1) := by decide +kernel
theorem dX8_get_13 : decode cX8_get 13 = .ok (.ifCond .lt 11, 3) := by decide +kernel
theorem dX8_get_16 : decode cX8_get 16 = .ok (.iload_n 2, 1) := by decide +kernel
theorem dX8_get_17 : decode cX8_get 17 = .ok (.aload_n 0, 1) := by decide +kernel
theorem dX8_get_18 : decode cX8_get 18 = .ok (.getfield 15, 3) := by decide +kernel
theorem dX8_get_21 : decode cX8_get 21 = .ok (.if_icmp .lt 5, 3) := by decide +kernel
theorem dX8_get_24 : decode cX8_get 24 = .ok (.iconst 0, 1) := by decide +kernel
theorem dX8_get_25 : decode cX8_get 25 = .ok (.ireturn, 1) := by decide +kernel
theorem dX8_get_26 : decode cX8_get 26 = .ok (.iload_n 1, 1) := by decide +kernel
theorem dX8_get_27 : decode cX8_get 27 = .ok (.aload_n 0, 1) := by decide +kernel
theorem dX8_get_28 : decode cX8_get 28 = .ok (.getfield 15, 3) := by decide +kernel
theorem dX8_get_31 : decode cX8_get 31 = .ok (.imul, 1) := by decide +kernel
theorem dX8_get_32 : decode cX8_get 32 = .ok (.iload_n 2, 1) := by decide +kernel
theorem dX8_get_33 : decode cX8_get 33 = .ok (.iadd, 1) := by decide +kernel
theorem dX8_get_34 : decode cX8_get 34 = .ok (.istore_n 3, 1) := by decide +kernel
theorem dX8_get_35 : decode cX8_get 35 = .ok (.iload_n 3, 1) := by decide +kernel
theorem dX8_get_36 : decode cX8_get 36 = .ok (.ifCond .lt 21, 3) := by decide +kernel
theorem dX8_get_39 : decode cX8_get 39 = .ok (.iload_n 3, 1) := by decide +kernel
theorem dX8_get_40 : decode cX8_get 40 = .ok (.aload_n 0, 1) := by decide +kernel
theorem dX8_get_41 : decode cX8_get 41 = .ok (.getfield 9, 3) := by decide +kernel
theorem dX8_get_44 : decode cX8_get 44 = .ok (.arraylength, 1) := by decide +kernel
theorem dX8_get_45 : decode cX8_get 45 = .ok (.if_icmp .ge 12, 3) := by decide +kernel
theorem dX8_get_48 : decode cX8_get 48 = .ok (.aload_n 0, 1) := by decide +kernel
theorem dX8_get_49 : decode cX8_get 49 = .ok (.getfield 9, 3) := by decide +kernel
theorem dX8_get_52 : decode cX8_get 52 = .ok (.iload_n 3, 1) := by decide +kernel
theorem dX8_get_53 : decode cX8_get 53 = .ok (.iaload, 1) := by decide +kernel
theorem dX8_get_54 : decode cX8_get 54 = .ok (.goto 4, 3) := by decide +kernel
theorem dX8_get_57 : decode cX8_get 57 = .ok (.iconst 0, 1) := by decide +kernel
theorem dX8_get_58 : decode cX8_get 58 = .ok (.ireturn, 1) := by decide +kernel
theorem dX8_put_0 : decode cX8_put 0 = .ok (.iload_n 1, 1) := by decide +kernel
theorem dX8_put_1 : decode cX8_put 1 = .ok (.ifCond .lt 23, 3) := by decide +kernel
theorem dX8_put_4 : decode cX8_put 4 = .ok (.iload_n 1, 1) := by decide +kernel
theorem dX8_put_5 : decode cX8_put 5 = .ok (.aload_n 0, 1) := by decide +kernel
theorem dX8_put_6 : decode cX8_put 6 = .ok (.getfield 22, 3) := by decide +kernel
theorem dX8_put_9 : decode cX8_put 9 = .ok (.if_icmp .ge 15, 3) := by decide +kernel
theorem dX8_put_12 : decode cX8_put 12 = .ok (.iload_n 2, 1) := by decide +kernel
theorem dX8_put_13 : decode cX8_put 13 = .ok (.ifCond .lt 11, 3) := by decide +kernel
theorem dX8_put_16 : decode cX8_put 16 = .ok (.iload_n 2, 1) := by decide +kernel
theorem dX8_put_17 : decode cX8_put 17 = .ok (.aload_n 0, 1) := by decide +kernel
theorem dX8_put_18 : decode cX8_put 18 = .ok (.getfield 15, 3) := by decide +kernel
theorem dX8_put_21 : decode cX8_put 21 = .ok (.if_icmp .lt 4, 3) := by decide +kernel
theorem dX8_put_24 : decode cX8_put 24 = .ok (.return_, 1) := by decide +kernel
theorem dX8_put_25 : decode cX8_put 25 = .ok (.iload_n 1, 1) := by decide +kernel
theorem dX8_put_26 : decode cX8_put 26 = .ok (.aload_n 0, 1) := by decide +kernel
theorem dX8_put_27 : decode cX8_put 27 = .ok (.getfield 15, 3) := by decide +kernel
theorem dX8_put_30 : decode cX8_put 30 = .ok (.imul, 1) := by decide +kernel
theorem dX8_put_31 : decode cX8_put 31 = .ok (.iload_n 2, 1) := by decide +kernel
theorem dX8_put_32 : decode cX8_put 32 = .ok (.iadd, 1) := by decide +kernel
theorem dX8_put_33 : decode cX8_put 33 = .ok (.istore 4, 2) := by decide +kernel
theorem dX8_put_35 : decode cX8_put 35 = .ok (.iload 4, 2) := by decide +kernel
theorem dX8_put_37 : decode cX8_put 37 = .ok (.ifCond .lt 21, 3) := by decide +kernel
theorem dX8_put_40 : decode cX8_put 40 = .ok (.iload 4, 2) := by decide +kernel
theorem dX8_put_42 : decode cX8_put 42 = .ok (.aload_n 0, 1) := by decide +kernel
theorem dX8_put_43 : decode cX8_put 43 = .ok (.getfield 9, 3) := by decide +kernel
theorem dX8_put_46 : decode cX8_put 46 = .ok (.arraylength, 1) := by decide +kernel
theorem dX8_put_47 : decode cX8_put 47 = .ok (.if_icmp .ge 11, 3) := by decide +kernel
theorem dX8_put_50 : decode cX8_put 50 = .ok (.aload_n 0, 1) := by decide +kernel
theorem dX8_put_51 : decode cX8_put 51 = .ok (.getfield 9, 3) := by decide +kernel
theorem dX8_put_54 : decode cX8_put 54 = .ok (.iload 4, 2) := by decide +kernel
theorem dX8_put_56 : decode cX8_put 56 = .ok (.iload_n 3, 1) := by decide +kernel
theorem dX8_put_57 : decode cX8_put 57 = .ok (.iastore, 1) := by decide +kernel
theorem dX8_put_58 : decode cX8_put 58 = .ok (.return_, 1) := by decide +kernel
theorem dX8_increase_0 : decode cX8_increase 0 = .ok (.aload_n 0, 1) := by decide +kernel
theorem dX8_increase_1 : decode cX8_increase 1 = .ok (.iload_n 1, 1) := by decide +kernel
theorem dX8_increase_2 : decode cX8_increase 2 = .ok (.iload_n 2, 1) := by decide +kernel
theorem dX8_increase_3 : decode cX8_increase 3 = .ok (.aload_n 0, 1) := by decide +kernel
theorem dX8_increase_4 : decode cX8_increase 4 = .ok (.iload_n 1, 1) := by decide +kernel
theorem dX8_increase_5 : decode cX8_increase 5 = .ok (.iload_n 2, 1) := by decide +kernel
theorem dX8_increase_6 : decode cX8_increase 6 = .ok (.invokevirtual 29, 3) := by decide +kernel
theorem dX8_increase_9 : decode cX8_increase 9 = .ok (.iload_n 3, 1) := by decide +kernel
theorem dX8_increase_10 : decode cX8_increase 10 = .ok (.iadd, 1) := by decide +kernel
theorem dX8_increase_11 : decode cX8_increase 11 = .ok (.invokevirtual 33, 3) := by decide +kernel
theorem dX8_increase_14 : decode cX8_increase 14 = .ok (.return_, 1) := by decide +kernel
theorem dX8_sum_0 : decode cX8_sum 0 = .ok (.iconst 0, 1) := by decide +kernel
theorem dX8_sum_1 : decode cX8_sum 1 = .ok (.istore_n 2, 1) := by decide +kernel
theorem dX8_sum_2 : decode cX8_sum 2 = .ok (.iconst 0, 1) := by decide +kernel
theorem dX8_sum_3 : decode cX8_sum 3 = .ok (.istore_n 3, 1) := by decide +kernel
theorem dX8_sum_4 : decode cX8_sum 4 = .ok (.iload_n 3, 1) := by decide +kernel
theorem dX8_sum_5 : decode cX8_sum 5 = .ok (.aload_n 0, 1) := by decide +kernel
theorem dX8_sum_6 : decode cX8_sum 6 = .ok (.getfield 22, 3) := by decide +kernel
theorem dX8_sum_9 : decode cX8_sum 9 = .ok (.if_icmp .ge 18, 3) := by decide +kernel
theorem dX8_sum_12 : decode cX8_sum 12 = .ok (.iload_n 2, 1) := by decide +kernel
theorem dX8_sum_13 : decode cX8_sum 13 = .ok (.aload_n 0, 1) := by decide +kernel
theorem dX8_sum_14 : decode cX8_sum 14 = .ok (.iload_n 3, 1) := by decide +kernel
theorem dX8_sum_15 : decode cX8_sum 15 = .ok (.iload_n 1, 1) := by decide +kernel
theorem dX8_sum_16 : decode cX8_sum 16 = .ok (.invokevirtual 29, 3) := by decide +kernel
theorem dX8_sum_19 : decode cX8_sum 19 = .ok (.iadd, 1) := by decide +kernel
theorem dX8_sum_20 : decode cX8_sum 20 = .ok (.istore_n 2, 1) := by decide +kernel
theorem dX8_sum_21 : decode cX8_sum 21 = .ok (.iinc 3 1, 3) := by decide +kernel
theorem dX8_sum_24 : decode cX8_sum 24 = .ok (.goto (-20), 3) := by decide +kernel
theorem dX8_sum_27 : decode cX8_sum 27 = .ok (.iload_n 2, 1) := by decide +kernel
theorem dX8_sum_28 : decode cX8_sum 28 = .ok (.ireturn, 1) := by decide +kernel
theorem dX8_count_0 : decode cX8_count 0 = .ok (.iconst 0, 1) := by decide +kernel
theorem dX8_count_1 : decode cX8_count 1 = .ok (.istore_n 3, 1) := by decide +kernel
theorem dX8_count_2 : decode cX8_count 2 = .ok (.iconst 0, 1) := by decide +kernel
theorem dX8_count_3 : decode cX8_count 3 = .ok (.istore 4, 2) := by decide +kernel
theorem dX8_count_5 : decode cX8_count 5 = .ok (.iload 4, 2) := by decide +kernel
theorem dX8_count_7 : decode cX8_count 7 = .ok (.aload_n 0, 1) := by decide +kernel
theorem dX8_count_8 : decode cX8_count 8 = .ok (.getfield 22, 3) := by decide +kernel
theorem dX8_count_11 : decode cX8_count 11 = .ok (.if_icmp .ge 23, 3) := by decide +kernel
theorem dX8_count_14 : decode cX8_count 14 = .ok (.aload_n 0, 1) := by decide +kernel
theorem dX8_count_15 : decode cX8_count 15 = .ok (.iload 4, 2) := by decide +kernel
theorem dX8_count_17 : decode cX8_count 17 = .ok (.iload_n 1, 1) := by decide +kernel
theorem dX8_count_18 : decode cX8_count 18 = .ok (.invokevirtual 29, 3) := by decide +kernel
theorem dX8_count_21 : decode cX8_count 21 = .ok (.iload_n 2, 1) := by decide +kernel
theorem dX8_count_22 : decode cX8_count 22 = .ok (.if_icmp .ne 6, 3) := by decide +kernel
theorem dX8_count_25 : decode cX8_count 25 = .ok (.iinc 3 1, 3) := by decide +kernel
theorem dX8_count_28 : decode cX8_count 28 = .ok (.iinc 4 1, 3) := by decide +kernel
theorem dX8_count_31 : decode cX8_count 31 = .ok (.goto (-26), 3) := by decide +kernel
theorem dX8_count_34 : decode cX8_count 34 = .ok (.iload_n 3, 1) := by decide +kernel
theorem dX8_count_35 : decode cX8_count 35 = .ok (.ireturn, 1) := by decide +kernel
theorem dX8_countBoth_0 : decode cX8_countBoth 0 = .ok (.iconst 0, 1) := by decide +kernel
theorem dX8_countBoth_1 : decode cX8_countBoth 1 = .ok (.istore 5, 2) := by decide +kernel
theorem dX8_countBoth_3 : decode cX8_countBoth 3 = .ok (.iconst 0, 1) := by decide +kernel
theorem dX8_countBoth_4 : decode cX8_countBoth 4 = .ok (.istore 6, 2) := by decide +kernel
theorem dX8_countBoth_6 : decode cX8_countBoth 6 = .ok (.iload 6, 2) := by decide +kernel
theorem dX8_countBoth_8 : decode cX8_countBoth 8 = .ok (.aload_n 0, 1) := by decide +kernel
theorem dX8_countBoth_9 : decode cX8_countBoth 9 = .ok (.getfield 22, 3) := by decide +kernel
theorem dX8_countBoth_12 : decode cX8_countBoth 12 = .ok (.if_icmp .ge 35, 3) := by decide +kernel
theorem dX8_countBoth_15 : decode cX8_countBoth 15 = .ok (.aload_n 0, 1) := by decide +kernel
theorem dX8_countBoth_16 : decode cX8_countBoth 16 = .ok (.iload 6, 2) := by decide +kernel
theorem dX8_countBoth_18 : decode cX8_countBoth 18 = .ok (.iload_n 1, 1) := by decide +kernel
theorem dX8_countBoth_19 : decode cX8_countBoth 19 = .ok (.invokevirtual 29, 3) := by decide +kernel
theorem dX8_countBoth_22 : decode cX8_countBoth 22 = .ok (.iload_n 2, 1) := by decide +kernel
theorem dX8_countBoth_23 : decode cX8_countBoth 23 = .ok (.if_icmp .ne 18, 3) := by decide +kernel
theorem dX8_countBoth_26 : decode cX8_countBoth 26 = .ok (.aload_n 0, 1) := by decide +kernel
theorem dX8_countBoth_27 : decode cX8_countBoth 27 = .ok (.iload 6, 2) := by decide +kernel
theorem dX8_countBoth_29 : decode cX8_countBoth 29 = .ok (.iload_n 3, 1) := by decide +kernel
theorem dX8_countBoth_30 : decode cX8_countBoth 30 = .ok (.invokevirtual 29, 3) := by decide +kernel
theorem dX8_countBoth_33 : decode cX8_countBoth 33 = .ok (.iload 4, 2) := by decide +kernel
theorem dX8_countBoth_35 : decode cX8_countBoth 35 = .ok (.if_icmp .ne 6, 3) := by decide +kernel
theorem dX8_countBoth_38 : decode cX8_countBoth 38 = .ok (.iinc 5 1, 3) := by decide +kernel
theorem dX8_countBoth_41 : decode cX8_countBoth 41 = .ok (.iinc 6 1, 3) := by decide +kernel
theorem dX8_countBoth_44 : decode cX8_countBoth 44 = .ok (.goto (-38), 3) := by decide +kernel
theorem dX8_countBoth_47 : decode cX8_countBoth 47 = .ok (.iload 5, 2) := by decide +kernel
theorem dX8_countBoth_49 : decode cX8_countBoth 49 = .ok (.ireturn, 1) := by decide +kernel
theorem dX8_firstWith_0 : decode cX8_firstWith 0 = .ok (.iconst 0, 1) := by decide +kernel
theorem dX8_firstWith_1 : decode cX8_firstWith 1 = .ok (.istore_n 3, 1) := by decide +kernel
theorem dX8_firstWith_2 : decode cX8_firstWith 2 = .ok (.iload_n 3, 1) := by decide +kernel
theorem dX8_firstWith_3 : decode cX8_firstWith 3 = .ok (.aload_n 0, 1) := by decide +kernel
theorem dX8_firstWith_4 : decode cX8_firstWith 4 = .ok (.getfield 22, 3) := by decide +kernel
theorem dX8_firstWith_7 : decode cX8_firstWith 7 = .ok (.if_icmp .ge 21, 3) := by decide +kernel
theorem dX8_firstWith_10 : decode cX8_firstWith 10 = .ok (.aload_n 0, 1) := by decide +kernel
theorem dX8_firstWith_11 : decode cX8_firstWith 11 = .ok (.iload_n 3, 1) := by decide +kernel
theorem dX8_firstWith_12 : decode cX8_firstWith 12 = .ok (.iload_n 1, 1) := by decide +kernel
theorem dX8_firstWith_13 : decode cX8_firstWith 13 = .ok (.invokevirtual 29, 3) := by decide +kernel
theorem dX8_firstWith_16 : decode cX8_firstWith 16 = .ok (.iload_n 2, 1) := by decide +kernel
theorem dX8_firstWith_17 : decode cX8_firstWith 17 = .ok (.if_icmp .ne 5, 3) := by decide +kernel
theorem dX8_firstWith_20 : decode cX8_firstWith 20 = .ok (.iload_n 3, 1) := by decide +kernel
theorem dX8_firstWith_21 : decode cX8_firstWith 21 = .ok (.ireturn, 1) := by decide +kernel
theorem dX8_firstWith_22 : decode cX8_firstWith 22 = .ok (.iinc 3 1, 3) := by decide +kernel
theorem dX8_firstWith_25 : decode cX8_firstWith 25 = .ok (.goto (-23), 3) := by decide +kernel
theorem dX8_firstWith_28 : decode cX8_firstWith 28 = .ok (.bipush (-9), 2) := by decide +kernel
theorem dX8_firstWith_30 : decode cX8_firstWith 30 = .ok (.ireturn, 1) := by decide +kernel
theorem dX8_copyFrom_0 : decode cX8_copyFrom 0 = .ok (.iconst 0, 1) := by decide +kernel
theorem dX8_copyFrom_1 : decode cX8_copyFrom 1 = .ok (.istore_n 2, 1) := by decide +kernel
theorem dX8_copyFrom_2 : decode cX8_copyFrom 2 = .ok (.iload_n 2, 1) := by decide +kernel
theorem dX8_copyFrom_3 : decode cX8_copyFrom 3 = .ok (.aload_n 0, 1) := by decide +kernel
theorem dX8_copyFrom_4 : decode cX8_copyFrom 4 = .ok (.getfield 9, 3) := by decide +kernel
theorem dX8_copyFrom_7 : decode cX8_copyFrom 7 = .ok (.arraylength, 1) := by decide +kernel
theorem dX8_copyFrom_8 : decode cX8_copyFrom 8 = .ok (.if_icmp .ge 30, 3) := by decide +kernel
theorem dX8_copyFrom_11 : decode cX8_copyFrom 11 = .ok (.iload_n 2, 1) := by decide +kernel
theorem dX8_copyFrom_12 : decode cX8_copyFrom 12 = .ok (.aload_n 1, 1) := by decide +kernel
theorem dX8_copyFrom_13 : decode cX8_copyFrom 13 = .ok (.getfield 9, 3) := by decide +kernel
theorem dX8_copyFrom_16 : decode cX8_copyFrom 16 = .ok (.arraylength, 1) := by decide +kernel
theorem dX8_copyFrom_17 : decode cX8_copyFrom 17 = .ok (.if_icmp .ge 21, 3) := by decide +kernel
theorem dX8_copyFrom_20 : decode cX8_copyFrom 20 = .ok (.aload_n 0, 1) := by decide +kernel
theorem dX8_copyFrom_21 : decode cX8_copyFrom 21 = .ok (.getfield 9, 3) := by decide +kernel
theorem dX8_copyFrom_24 : decode cX8_copyFrom 24 = .ok (.iload_n 2, 1) := by decide +kernel
theorem dX8_copyFrom_25 : decode cX8_copyFrom 25 = .ok (.aload_n 1, 1) := by decide +kernel
theorem dX8_copyFrom_26 : decode cX8_copyFrom 26 = .ok (.getfield 9, 3) := by decide +kernel
theorem dX8_copyFrom_29 : decode cX8_copyFrom 29 = .ok (.iload_n 2, 1) := by decide +kernel
theorem dX8_copyFrom_30 : decode cX8_copyFrom 30 = .ok (.iaload, 1) := by decide +kernel
theorem dX8_copyFrom_31 : decode cX8_copyFrom 31 = .ok (.iastore, 1) := by decide +kernel
theorem dX8_copyFrom_32 : decode cX8_copyFrom 32 = .ok (.iinc 2 1, 3) := by decide +kernel
theorem dX8_copyFrom_35 : decode cX8_copyFrom 35 = .ok (.goto (-33), 3) := by decide +kernel
theorem dX8_copyFrom_38 : decode cX8_copyFrom 38 = .ok (.aload_n 0, 1) := by decide +kernel
theorem dX8_copyFrom_39 : decode cX8_copyFrom 39 = .ok (.aload_n 1, 1) := by decide +kernel
theorem dX8_copyFrom_40 : decode cX8_copyFrom 40 = .ok (.getfield 22, 3) := by decide +kernel
theorem dX8_copyFrom_43 : decode cX8_copyFrom 43 = .ok (.putfield 22, 3) := by decide +kernel
theorem dX8_copyFrom_46 : decode cX8_copyFrom 46 = .ok (.return_, 1) := by decide +kernel
theorem dX9_init_0 : decode cX9_init 0 = .ok (.aload_n 0, 1) := by decide +kernel
theorem dX9_init_1 : decode cX9_init 1 = .ok (.invokespecial 3, 3) := by decide +kernel
theorem dX9_init_4 : decode cX9_init 4 = .ok (.aload_n 0, 1) := by decide +kernel
theorem dX9_init_5 : decode cX9_init 5 = .ok (.bipush 80, 2) := by decide +kernel
theorem dX9_init_7 : decode cX9_init 7 = .ok (.newarray .char, 2) := by decide +kernel
theorem dX9_init_9 : decode cX9_init 9 = .ok (.putfield 9, 3) := by decide +kernel
theorem dX9_init_12 : decode cX9_init 12 = .ok (.return_, 1) := by decide +kernel
theorem dX9_size_0 : decode cX9_size 0 = .ok (.aload_n 0, 1) := by decide +kernel
theorem dX9_size_1 : decode cX9_size 1 = .ok (.getfield 15, 3) := by decide +kernel
theorem dX9_size_4 : decode cX9_size 4 = .ok (.ireturn, 1) := by decide +kernel
theorem dX9_isFull_0 : decode cX9_isFull 0 = .ok (.aload_n 0, 1) := by decide +kernel
theorem dX9_isFull_1 : decode cX9_isFull 1 = .ok (.getfield 15, 3) := by decide +kernel
theorem dX9_isFull_4 : decode cX9_isFull 4 = .ok (.bipush 80, 2) := by decide +kernel
theorem dX9_isFull_6 : decode cX9_isFull 6 = .ok (.if_icmp .lt 7, 3) := by decide +kernel
theorem dX9_isFull_9 : decode cX9_isFull 9 = .ok (.iconst 1, 1) := by decide +kernel
theorem dX9_isFull_10 : decode cX9_isFull 10 = .ok (.goto 4, 3) := by decide +kernel
theorem dX9_isFull_13 : decode cX9_isFull 13 = .ok (.iconst 0, 1) := by decide +kernel
theorem dX9_isFull_14 : decode cX9_isFull 14 = .ok (.ireturn, 1) := by decide +kernel
theorem dX9_addCharacter_0 : decode cX9_addCharacter 0 = .ok (.aload_n 0, 1) := by decide +kernel
theorem dX9_addCharacter_1 : decode cX9_addCharacter 1 = .ok (.getfield 15, 3) := by decide +kernel
theorem dX9_addCharacter_4 : decode cX9_addCharacter 4 = .ok (.ifCond .lt 35, 3) := by decide +kernel
theorem dX9_addCharacter_7 : decode cX9_addCharacter 7 = .ok (.aload_n 0, 1) := by decide +kernel
theorem dX9_addCharacter_8 : decode cX9_addCharacter 8 = .ok (.getfield 15, 3) := by decide +kernel
theorem dX9_addCharacter_11 : decode cX9_addCharacter 11 = .ok (.aload_n 0, 1) := by decide +kernel
theorem dX9_addCharacter_12 : decode cX9_addCharacter 12 = .ok (.getfield 9, 3) := by decide +kernel
theorem dX9_addCharacter_15 : decode cX9_addCharacter 15 = .ok (.arraylength, 1) := by decide +kernel
theorem dX9_addCharacter_16 : decode cX9_addCharacter 16 = .ok (.if_icmp .ge 23, 3) := by decide +kernel
theorem dX9_addCharacter_19 : decode cX9_addCharacter 19 = .ok (.aload_n 0, 1) := by decide +kernel
theorem dX9_addCharacter_20 : decode cX9_addCharacter 20 = .ok (.getfield 9, 3) := by decide +kernel
theorem dX9_addCharacter_23 : decode cX9_addCharacter 23 = .ok (.aload_n 0, 1) := by decide +kernel
theorem dX9_addCharacter_24 : decode cX9_addCharacter 24 = .ok (.getfield 15, 3) := by decide +kernel
theorem dX9_addCharacter_27 : decode cX9_addCharacter 27 = .ok (.iload_n 1, 1) := by decide +kernel
theorem dX9_addCharacter_28 : decode cX9_addCharacter 28 = .ok (.castore, 1) := by decide +kernel
theorem dX9_addCharacter_29 : decode cX9_addCharacter 29 = .ok (.aload_n 0, 1) := by decide +kernel
theorem dX9_addCharacter_30 : decode cX9_addCharacter 30 = .ok (.dup, 1) := by decide +kernel
theorem dX9_addCharacter_31 : decode cX9_addCharacter 31 = .ok (.getfield 15, 3) := by decide +kernel
theorem dX9_addCharacter_34 : decode cX9_addCharacter 34 = .ok (.iconst 1, 1) := by decide +kernel
theorem dX9_addCharacter_35 : decode cX9_addCharacter 35 = .ok (.iadd, 1) := by decide +kernel
theorem dX9_addCharacter_36 : decode cX9_addCharacter 36 = .ok (.putfield 15, 3) := by decide +kernel
theorem dX9_addCharacter_39 : decode cX9_addCharacter 39 = .ok (.aload_n 0, 1) := by decide +kernel
theorem dX9_addCharacter_40 : decode cX9_addCharacter 40 = .ok (.getfield 15, 3) := by decide +kernel
theorem dX9_addCharacter_43 : decode cX9_addCharacter 43 = .ok (.ireturn, 1) := by decide +kernel
theorem dX9_at_0 : decode cX9_at 0 = .ok (.iload_n 1, 1) := by decide +kernel
theorem dX9_at_1 : decode cX9_at 1 = .ok (.ifCond .lt 29, 3) := by decide +kernel
theorem dX9_at_4 : decode cX9_at 4 = .ok (.iload_n 1, 1) := by decide +kernel
theorem dX9_at_5 : decode cX9_at 5 = .ok (.aload_n 0, 1) := by decide +kernel
theorem dX9_at_6 : decode cX9_at 6 = .ok (.getfield 15, 3) := by decide +kernel
theorem dX9_at_9 : decode cX9_at 9 = .ok (.if_icmp .ge 21, 3) := by decide +kernel
theorem dX9_at_12 : decode cX9_at 12 = .ok (.iload_n 1, 1) := by decide +kernel
theorem dX9_at_13 : decode cX9_at 13 = .ok (.aload_n 0, 1) := by decide +kernel
theorem dX9_at_14 : decode cX9_at 14 = .ok (.getfield 9, 3) := by decide +kernel
theorem dX9_at_17 : decode cX9_at 17 = .ok (.arraylength, 1) := by decide +kernel
theorem dX9_at_18 : decode cX9_at 18 = .ok (.if_icmp .ge 12, 3) := by decide +kernel
theorem dX9_at_21 : decode cX9_at 21 = .ok (.aload_n 0, 1) := by decide +kernel
theorem dX9_at_22 : decode cX9_at 22 = .ok (.getfield 9, 3) := by decide +kernel
theorem dX9_at_25 : decode cX9_at 25 = .ok (.iload_n 1, 1) := by decide +kernel
theorem dX9_at_26 : decode cX9_at 26 = .ok (.caload, 1) := by decide +kernel
theorem dX9_at_27 : decode cX9_at 27 = .ok (.goto 4, 3) := by decide +kernel
theorem dX9_at_30 : decode cX9_at 30 = .ok (.iconst 0, 1) := by decide +kernel
theorem dX9_at_31 : decode cX9_at 31 = .ok (.ireturn, 1) := by decide +kernel
theorem dX10_init_0 : decode cX10_init 0 = .ok (.aload_n 0, 1) := by decide +kernel
theorem dX10_init_1 : decode cX10_init 1 = .ok (.invokespecial 1, 3) := by decide +kernel
theorem dX10_init_4 : decode cX10_init 4 = .ok (.aload_n 0, 1) := by decide +kernel
theorem dX10_init_5 : decode cX10_init 5 = .ok (.new 7, 3) := by decide +kernel
theorem dX10_init_8 : decode cX10_init 8 = .ok (.dup, 1) := by decide +kernel
theorem dX10_init_9 : decode cX10_init 9 = .ok (.invokespecial 9, 3) := by decide +kernel
theorem dX10_init_12 : decode cX10_init 12 = .ok (.putfield 10, 3) := by decide +kernel
theorem dX10_init_15 : decode cX10_init 15 = .ok (.aload_n 0, 1) := by decide +kernel
theorem dX10_init_16 : decode cX10_init 16 = .ok (.new 16, 3) := by decide +kernel
theorem dX10_init_19 : decode cX10_init 19 = .ok (.dup, 1) := by decide +kernel
theorem dX10_init_20 : decode cX10_init 20 = .ok (.invokespecial 18, 3) := by decide +kernel
theorem dX10_init_23 : decode cX10_init 23 = .ok (.putfield 19, 3) := by decide +kernel
theorem dX10_init_26 : decode cX10_init 26 = .ok (.aload_n 0, 1) := by decide +kernel
theorem dX10_init_27 : decode cX10_init 27 = .ok (.new 16, 3) := by decide +kernel
theorem dX10_init_30 : decode cX10_init 30 = .ok (.dup, 1) := by decide +kernel
theorem dX10_init_31 : decode cX10_init 31 = .ok (.invokespecial 18, 3) := by decide +kernel
theorem dX10_init_34 : decode cX10_init 34 = .ok (.putfield 23, 3) := by decide +kernel
theorem dX10_init_37 : decode cX10_init 37 = .ok (.aload_n 0, 1) := by decide +kernel
theorem dX10_init_38 : decode cX10_init 38 = .ok (.new 26, 3) := by decide +kernel
theorem dX10_init_41 : decode cX10_init 41 = .ok (.dup, 1) := by decide +kernel
theorem dX10_init_42 : decode cX10_init 42 = .ok (.invokespecial 28, 3) := by decide +kernel
theorem dX10_init_45 : decode cX10_init 45 = .ok (.putfield 29, 3) := by decide +kernel
theorem dX10_init_48 : decode cX10_init 48 = .ok (.aload_n 0, 1) := by decide +kernel
theorem dX10_init_49 : decode cX10_init 49 = .ok (.new 33, 3) := by decide +kernel
theorem dX10_init_52 : decode cX10_init 52 = .ok (.dup, 1) := by decide +kernel
theorem dX10_init_53 : decode cX10_init 53 = .ok (.invokespecial 35, 3) := by decide +kernel
theorem dX10_init_56 : decode cX10_init 56 = .ok (.putfield 36, 3) := by decide +kernel
theorem dX10_init_59 : decode cX10_init 59 = .ok (.aload_n 0, 1) := by decide +kernel
theorem dX10_init_60 : decode cX10_init 60 = .ok (.new 40, 3) := by decide +kernel
theorem dX10_init_63 : decode cX10_init 63 = .ok (.dup, 1) := by decide +kernel
theorem dX10_init_64 : decode cX10_init 64 = .ok (.invokespecial 42, 3) := by decide +kernel
theorem dX10_init_67 : decode cX10_init 67 = .ok (.putfield 43, 3) := by decide +kernel
theorem dX10_init_70 : decode cX10_init 70 = .ok (.return_, 1) := by decide +kernel
theorem dX10_append_0 : decode cX10_append 0 = .ok (.iload_n 1, 1) := by decide +kernel
theorem dX10_append_1 : decode cX10_append 1 = .ok (.iconst 0, 1) := by decide +kernel
theorem dX10_append_2 : decode cX10_append 2 = .ok (.sipush 255, 3) := by decide +kernel
theorem dX10_append_5 : decode cX10_append 5 = .ok (.invokestatic 47, 3) := by decide +kernel
theorem dX10_append_8 : decode cX10_append 8 = .ok (.ifCond .ne 13, 3) := by decide +kernel
theorem dX10_append_11 : decode cX10_append 11 = .ok (.new 51, 3) := by decide +kernel
theorem dX10_append_14 : decode cX10_append 14 = .ok (.dup, 1) := by decide +kernel
theorem dX10_append_15 : decode cX10_append 15 = .ok (.ldc 53, 2) := by decide +kernel
theorem dX10_append_17 : decode cX10_append 17 = .ok (.invokespecial 55, 3) := by decide +kernel
theorem dX10_append_20 : decode cX10_append 20 = .ok (.athrow, 1) := by decide +kernel
theorem dX10_append_21 : decode cX10_append 21 = .ok (.aload_n 0, 1) := by decide +kernel
theorem dX10_append_22 : decode cX10_append 22 = .ok (.getfield 10, 3) := by decide +kernel
theorem dX10_append_25 : decode cX10_append 25 = .ok (.invokevirtual 58, 3) := by decide +kernel
theorem dX10_append_28 : decode cX10_append 28 = .ok (.ifCond .eq 13, 3) := by decide +kernel
theorem dX10_append_31 : decode cX10_append 31 = .ok (.new 62, 3) := by decide +kernel
theorem dX10_append_34 : decode cX10_append 34 = .ok (.dup, 1) := by decide +kernel
theorem dX10_append_35 : decode cX10_append 35 = .ok (.ldc 64, 2) := by decide +kernel
theorem dX10_append_37 : decode cX10_append 37 = .ok (.invokespecial 66, 3) := by decide +kernel
theorem dX10_append_40 : decode cX10_append 40 = .ok (.athrow, 1) := by decide +kernel
theorem dX10_append_41 : decode cX10_append 41 = .ok (.aload_n 0, 1) := by decide +kernel
theorem dX10_append_42 : decode cX10_append 42 = .ok (.getfield 10, 3) := by decide +kernel
theorem dX10_append_45 : decode cX10_append 45 = .ok (.iload_n 1, 1) := by decide +kernel
theorem dX10_append_46 : decode cX10_append 46 = .ok (.i2c, 1) := by decide +kernel
theorem dX10_append_47 : decode cX10_append 47 = .ok (.invokevirtual 67, 3) := by decide +kernel
theorem dX10_append_50 : decode cX10_append 50 = .ok (.ireturn, 1) := by decide +kernel
theorem dX10_errorPosition_0 : decode cX10_errorPosition 0 = .ok (.new 75, 3) := by decide +kernel
theorem dX10_errorPosition_3 : decode cX10_errorPosition 3 = .ok (.dup, 1) := by decide +kernel
theorem dX10_errorPosition_4 : decode cX10_errorPosition 4 = .ok (.aload_n 0, 1) := by decide +kernel
theorem dX10_errorPosition_5 : decode cX10_errorPosition 5 = .ok (.getfield 10, 3) := by decide +kernel
theorem dX10_errorPosition_8 : decode cX10_errorPosition 8 = .ok (.aload_n 0, 1) := by decide +kernel
theorem dX10_errorPosition_9 : decode cX10_errorPosition 9 = .ok (.getfield 23, 3) := by decide +kernel
theorem dX10_errorPosition_12 : decode cX10_errorPosition 12 = .ok (.invokespecial 77, 3) := by decide +kernel
theorem dX10_errorPosition_15 : decode cX10_errorPosition 15 = .ok (.invokevirtual 80, 3) := by decide +kernel
theorem dX10_errorPosition_18 : decode cX10_errorPosition 18 = .ok (.ireturn, 1) := by decide +kernel
theorem dX10_load_0 : decode cX10_load 0 = .ok (.new 75, 3) := by decide +kernel
theorem dX10_load_3 : decode cX10_load 3 = .ok (.dup, 1) := by decide +kernel
theorem dX10_load_4 : decode cX10_load 4 = .ok (.aload_n 0, 1) := by decide +kernel
theorem dX10_load_5 : decode cX10_load 5 = .ok (.getfield 10, 3) := by decide +kernel
theorem dX10_load_8 : decode cX10_load 8 = .ok (.aload_n 0, 1) := by decide +kernel
theorem dX10_load_9 : decode cX10_load 9 = .ok (.getfield 23, 3) := by decide +kernel
theorem dX10_load_12 : decode cX10_load 12 = .ok (.invokespecial 77, 3) := by decide +kernel
theorem dX10_load_15 : decode cX10_load 15 = .ok (.invokevirtual 80, 3) := by decide +kernel
theorem dX10_load_18 : decode cX10_load 18 = .ok (.bipush (-9), 2) := by decide +kernel
theorem dX10_load_20 : decode cX10_load 20 = .ok (.if_icmp .eq 13, 3) := by decide +kernel
theorem dX10_load_23 : decode cX10_load 23 = .ok (.new 62, 3) := by decide +kernel
theorem dX10_load_26 : decode cX10_load 26 = .ok (.dup, 1) := by decide +kernel
theorem dX10_load_27 : decode cX10_load 27 = .ok (.ldc 83, 2) := by decide +kernel
theorem dX10_load_29 : decode cX10_load 29 = .ok (.invokespecial 66, 3) := by decide +kernel
theorem dX10_load_32 : decode cX10_load 32 = .ok (.athrow, 1) := by decide +kernel
theorem dX10_load_33 : decode cX10_load 33 = .ok (.aload_n 0, 1) := by decide +kernel
theorem dX10_load_34 : decode cX10_load 34 = .ok (.getfield 23, 3) := by decide +kernel
theorem dX10_load_37 : decode cX10_load 37 = .ok (.aload_n 0, 1) := by decide +kernel
theorem dX10_load_38 : decode cX10_load 38 = .ok (.getfield 19, 3) := by decide +kernel
theorem dX10_load_41 : decode cX10_load 41 = .ok (.invokestatic 85, 3) := by decide +kernel
theorem dX10_load_44 : decode cX10_load 44 = .ok (.aload_n 0, 1) := by decide +kernel
theorem dX10_load_45 : decode cX10_load 45 = .ok (.getfield 29, 3) := by decide +kernel
theorem dX10_load_48 : decode cX10_load 48 = .ok (.invokevirtual 89, 3) := by decide +kernel
theorem dX10_load_51 : decode cX10_load 51 = .ok (.aload_n 0, 1) := by decide +kernel
theorem dX10_load_52 : decode cX10_load 52 = .ok (.getfield 36, 3) := by decide +kernel
theorem dX10_load_55 : decode cX10_load 55 = .ok (.invokevirtual 92, 3) := by decide +kernel
theorem dX10_load_58 : decode cX10_load 58 = .ok (.aload_n 0, 1) := by decide +kernel
theorem dX10_load_59 : decode cX10_load 59 = .ok (.getfield 19, 3) := by decide +kernel
theorem dX10_load_62 : decode cX10_load 62 = .ok (.getfield 95, 3) := by decide +kernel
theorem dX10_load_65 : decode cX10_load 65 = .ok (.invokevirtual 99, 3) := by decide +kernel
theorem dX10_load_68 : decode cX10_load 68 = .ok (.ireturn, 1) := by decide +kernel
theorem dX10_about_0 : decode cX10_about 0 = .ok (.iload_n 1, 1) := by decide +kernel
theorem dX10_about_1 : decode cX10_about 1 = .ok (.tableswitch 190 0 11 #[63, 74, 85, 96, 104, 120, 128, 136, 149, 162, 174, 182], 63) := by decide +kernel
theorem dX10_about_64 : decode cX10_about 64 = .ok (.aload_n 0, 1) := by decide +kernel
theorem dX10_about_65 : decode cX10_about 65 = .ok (.getfield 19, 3) := by decide +kernel
theorem dX10_about_68 : decode cX10_about 68 = .ok (.getfield 104, 3) := by decide +kernel
theorem dX10_about_71 : decode cX10_about 71 = .ok (.invokevirtual 99, 3) := by decide +kernel
theorem dX10_about_74 : decode cX10_about 74 = .ok (.ireturn, 1) := by decide +kernel
theorem dX10_about_75 : decode cX10_about 75 = .ok (.aload_n 0, 1) := by decide +kernel
theorem dX10_about_76 : decode cX10_about 76 = .ok (.getfield 19, 3) := by decide +kernel
theorem dX10_about_79 : decode cX10_about 79 = .ok (.getfield 107, 3) := by decide +kernel
theorem dX10_about_82 : decode cX10_about 82 = .ok (.invokevirtual 99, 3) := by decide +kernel
theorem dX10_about_85 : decode cX10_about 85 = .ok (.ireturn, 1) := by decide +kernel
theorem dX10_about_86 : decode cX10_about 86 = .ok (.aload_n 0, 1) := by decide +kernel
theorem dX10_about_87 : decode cX10_about 87 = .ok (.getfield 19, 3) := by decide +kernel
theorem dX10_about_90 : decode cX10_about 90 = .ok (.getfield 95, 3) := by decide +kernel
theorem dX10_about_93 : decode cX10_about 93 = .ok (.invokevirtual 99, 3) := by decide +kernel
theorem dX10_about_96 : decode cX10_about 96 = .ok (.ireturn, 1) := by decide +kernel
theorem dX10_about_97 : decode cX10_about 97 = .ok (.aload_n 0, 1) := by decide +kernel
theorem dX10_about_98 : decode cX10_about 98 = .ok (.getfield 19, 3) := by decide +kernel
theorem dX10_about_101 : decode cX10_about 101 = .ok (.getfield 110, 3) := by decide +kernel
theorem dX10_about_104 : decode cX10_about 104 = .ok (.ireturn, 1) := by decide +kernel
theorem dX10_about_105 : decode cX10_about 105 = .ok (.aload_n 0, 1) := by decide +kernel
theorem dX10_about_106 : decode cX10_about 106 = .ok (.getfield 19, 3) := by decide +kernel
theorem dX10_about_109 : decode cX10_about 109 = .ok (.getfield 114, 3) := by decide +kernel
theorem dX10_about_112 : decode cX10_about 112 = .ok (.ifCond .eq 7, 3) := by decide +kernel
theorem dX10_about_115 : decode cX10_about 115 = .ok (.iconst 1, 1) := by decide +kernel
theorem dX10_about_116 : decode cX10_about 116 = .ok (.goto 4, 3) := by decide +kernel
theorem dX10_about_119 : decode cX10_about 119 = .ok (.iconst 0, 1) := by decide +kernel
theorem dX10_about_120 : decode cX10_about 120 = .ok (.ireturn, 1) := by decide +kernel
theorem dX10_about_121 : decode cX10_about 121 = .ok (.aload_n 0, 1) := by decide +kernel
theorem dX10_about_122 : decode cX10_about 122 = .ok (.getfield 19, 3) := by decide +kernel
theorem dX10_about_125 : decode cX10_about 125 = .ok (.getfield 118, 3) := by decide +kernel
theorem dX10_about_128 : decode cX10_about 128 = .ok (.ireturn, 1) := by decide +kernel
theorem dX10_about_129 : decode cX10_about 129 = .ok (.aload_n 0, 1) := by decide +kernel
theorem dX10_about_130 : decode cX10_about 130 = .ok (.getfield 19, 3) := by decide +kernel
theorem dX10_about_133 : decode cX10_about 133 = .ok (.invokevirtual 121, 3) := by decide +kernel
theorem dX10_about_136 : decode cX10_about 136 = .ok (.ireturn, 1) := by decide +kernel
theorem dX10_about_137 : decode cX10_about 137 = .ok (.aload_n 0, 1) := by decide +kernel
theorem dX10_about_138 : decode cX10_about 138 = .ok (.getfield 19, 3) := by decide +kernel
theorem dX10_about_141 : decode cX10_about 141 = .ok (.getfield 95, 3) := by decide +kernel
theorem dX10_about_144 : decode cX10_about 144 = .ok (.iconst 3, 1) := by decide +kernel
theorem dX10_about_145 : decode cX10_about 145 = .ok (.iconst 3, 1) := by decide +kernel
theorem dX10_about_146 : decode cX10_about 146 = .ok (.invokevirtual 124, 3) := by decide +kernel
theorem dX10_about_149 : decode cX10_about 149 = .ok (.ireturn, 1) := by decide +kernel
theorem dX10_about_150 : decode cX10_about 150 = .ok (.aload_n 0, 1) := by decide +kernel
theorem dX10_about_151 : decode cX10_about 151 = .ok (.getfield 19, 3) := by decide +kernel
theorem dX10_about_154 : decode cX10_about 154 = .ok (.getfield 95, 3) := by decide +kernel
theorem dX10_about_157 : decode cX10_about 157 = .ok (.iconst 3, 1) := by decide +kernel
theorem dX10_about_158 : decode cX10_about 158 = .ok (.iconst 4, 1) := by decide +kernel
theorem dX10_about_159 : decode cX10_about 159 = .ok (.invokevirtual 124, 3) := by decide +kernel
theorem dX10_about_162 : decode cX10_about 162 = .ok (.ireturn, 1) := by decide +kernel
theorem dX10_about_163 : decode cX10_about 163 = .ok (.aload_n 0, 1) := by decide +kernel
theorem dX10_about_164 : decode cX10_about 164 = .ok (.getfield 19, 3) := by decide +kernel
theorem dX10_about_167 : decode cX10_about 167 = .ok (.getfield 107, 3) := by decide +kernel
theorem dX10_about_170 : decode cX10_about 170 = .ok (.iconst 3, 1) := by decide +kernel
theorem dX10_about_171 : decode cX10_about 171 = .ok (.invokevirtual 128, 3) := by decide +kernel
theorem dX10_about_174 : decode cX10_about 174 = .ok (.ireturn, 1) := by decide +kernel
theorem dX10_about_175 : decode cX10_about 175 = .ok (.aload_n 0, 1) := by decide +kernel
theorem dX10_about_176 : decode cX10_about 176 = .ok (.getfield 19, 3) := by decide +kernel
theorem dX10_about_179 : decode cX10_about 179 = .ok (.getfield 132, 3) := by decide +kernel
theorem dX10_about_182 : decode cX10_about 182 = .ok (.ireturn, 1) := by decide +kernel
theorem dX10_about_183 : decode cX10_about 183 = .ok (.aload_n 0, 1) := by decide +kernel
theorem dX10_about_184 : decode cX10_about 184 = .ok (.getfield 19, 3) := by decide +kernel
theorem dX10_about_187 : decode cX10_about 187 = .ok (.getfield 135, 3) := by decide +kernel
theorem dX10_about_190 : decode cX10_about 190 = .ok (.ireturn, 1) := by decide +kernel
theorem dX10_about_191 : decode cX10_about 191 = .ok (.new 51, 3) := by decide +kernel
theorem dX10_about_194 : decode cX10_about 194 = .ok (.dup, 1) := by decide +kernel
theorem dX10_about_195 : decode cX10_about 195 = .ok (.ldc 138, 2) := by decide +kernel
theorem dX10_about_197 : decode cX10_about 197 = .ok (.invokespecial 55, 3) := by decide +kernel
theorem dX10_about_200 : decode cX10_about 200 = .ok (.athrow, 1) := by decide +kernel
theorem dX10_course_0 : decode cX10_course 0 = .ok (.aload_n 0, 1) := by decide +kernel
theorem dX10_course_1 : decode cX10_course 1 = .ok (.iload_n 1, 1) := by decide +kernel
theorem dX10_course_2 : decode cX10_course 2 = .ok (.invokevirtual 140, 3) := by decide +kernel
theorem dX10_course_5 : decode cX10_course 5 = .ok (.iload_n 2, 1) := by decide +kernel
theorem dX10_course_6 : decode cX10_course 6 = .ok (.tableswitch 109 0 6 #[42, 42, 42, 55, 70, 79, 94], 42) := by decide +kernel
theorem dX10_course_48 : decode cX10_course 48 = .ok (.aload_n 0, 1) := by decide +kernel
theorem dX10_course_49 : decode cX10_course 49 = .ok (.getfield 19, 3) := by decide +kernel
theorem dX10_course_52 : decode cX10_course 52 = .ok (.getfield 104, 3) := by decide +kernel
theorem dX10_course_55 : decode cX10_course 55 = .ok (.iload_n 1, 1) := by decide +kernel
theorem dX10_course_56 : decode cX10_course 56 = .ok (.iload_n 2, 1) := by decide +kernel
theorem dX10_course_57 : decode cX10_course 57 = .ok (.invokevirtual 144, 3) := by decide +kernel
theorem dX10_course_60 : decode cX10_course 60 = .ok (.ireturn, 1) := by decide +kernel
theorem dX10_course_61 : decode cX10_course 61 = .ok (.aload_n 0, 1) := by decide +kernel
theorem dX10_course_62 : decode cX10_course 62 = .ok (.getfield 19, 3) := by decide +kernel
theorem dX10_course_65 : decode cX10_course 65 = .ok (.getfield 95, 3) := by decide +kernel
theorem dX10_course_68 : decode cX10_course 68 = .ok (.iconst 0, 1) := by decide +kernel
theorem dX10_course_69 : decode cX10_course 69 = .ok (.iload_n 1, 1) := by decide +kernel
theorem dX10_course_70 : decode cX10_course 70 = .ok (.iconst 3, 1) := by decide +kernel
theorem dX10_course_71 : decode cX10_course 71 = .ok (.iconst 3, 1) := by decide +kernel
theorem dX10_course_72 : decode cX10_course 72 = .ok (.invokevirtual 147, 3) := by decide +kernel
theorem dX10_course_75 : decode cX10_course 75 = .ok (.ireturn, 1) := by decide +kernel
theorem dX10_course_76 : decode cX10_course 76 = .ok (.aload_n 0, 1) := by decide +kernel
theorem dX10_course_77 : decode cX10_course 77 = .ok (.getfield 19, 3) := by decide +kernel
theorem dX10_course_80 : decode cX10_course 80 = .ok (.iload_n 1, 1) := by decide +kernel
theorem dX10_course_81 : decode cX10_course 81 = .ok (.invokevirtual 151, 3) := by decide +kernel
theorem dX10_course_84 : decode cX10_course 84 = .ok (.ireturn, 1) := by decide +kernel
theorem dX10_course_85 : decode cX10_course 85 = .ok (.aload_n 0, 1) := by decide +kernel
theorem dX10_course_86 : decode cX10_course 86 = .ok (.getfield 19, 3) := by decide +kernel
theorem dX10_course_89 : decode cX10_course 89 = .ok (.getfield 95, 3) := by decide +kernel
theorem dX10_course_92 : decode cX10_course 92 = .ok (.iconst 0, 1) := by decide +kernel
theorem dX10_course_93 : decode cX10_course 93 = .ok (.iload_n 1, 1) := by decide +kernel
theorem dX10_course_94 : decode cX10_course 94 = .ok (.iconst 3, 1) := by decide +kernel
theorem dX10_course_95 : decode cX10_course 95 = .ok (.iconst 0, 1) := by decide +kernel
theorem dX10_course_96 : decode cX10_course 96 = .ok (.invokevirtual 147, 3) := by decide +kernel
theorem dX10_course_99 : decode cX10_course 99 = .ok (.ireturn, 1) := by decide +kernel
theorem dX10_course_100 : decode cX10_course 100 = .ok (.aload_n 0, 1) := by decide +kernel
theorem dX10_course_101 : decode cX10_course 101 = .ok (.getfield 19, 3) := by decide +kernel
theorem dX10_course_104 : decode cX10_course 104 = .ok (.getfield 95, 3) := by decide +kernel
theorem dX10_course_107 : decode cX10_course 107 = .ok (.iconst 0, 1) := by decide +kernel
theorem dX10_course_108 : decode cX10_course 108 = .ok (.iload_n 1, 1) := by decide +kernel
theorem dX10_course_109 : decode cX10_course 109 = .ok (.iconst 3, 1) := by decide +kernel
theorem dX10_course_110 : decode cX10_course 110 = .ok (.iconst 2, 1) := by decide +kernel
theorem dX10_course_111 : decode cX10_course 111 = .ok (.invokevirtual 147, 3) := by decide +kernel
theorem dX10_course_114 : decode cX10_course 114 = .ok (.ireturn, 1) := by decide +kernel
theorem dX10_course_115 : decode cX10_course 115 = .ok (.new 51, 3) := by decide +kernel
theorem dX10_course_118 : decode cX10_course 118 = .ok (.dup, 1) := by decide +kernel
theorem dX10_course_119 : decode cX10_course 119 = .ok (.ldc 154, 2) := by decide +kernel
theorem dX10_course_121 : decode cX10_course 121 = .ok (.invokespecial 55, 3) := by decide +kernel
theorem dX10_course_124 : decode cX10_course 124 = .ok (.athrow, 1) := by decide +kernel
theorem dX10_mason_0 : decode cX10_mason 0 = .ok (.aload_n 0, 1) := by decide +kernel
theorem dX10_mason_1 : decode cX10_mason 1 = .ok (.iload_n 1, 1) := by decide +kernel
theorem dX10_mason_2 : decode cX10_mason 2 = .ok (.invokevirtual 156, 3) := by decide +kernel
theorem dX10_mason_5 : decode cX10_mason 5 = .ok (.iload_n 2, 1) := by decide +kernel
theorem dX10_mason_6 : decode cX10_mason 6 = .ok (.tableswitch 75 0 5 #[38, 38, 38, 38, 51, 66], 38) := by decide +kernel
theorem dX10_mason_44 : decode cX10_mason 44 = .ok (.aload_n 0, 1) := by decide +kernel
theorem dX10_mason_45 : decode cX10_mason 45 = .ok (.getfield 19, 3) := by decide +kernel
theorem dX10_mason_48 : decode cX10_mason 48 = .ok (.getfield 107, 3) := by decide +kernel
theorem dX10_mason_51 : decode cX10_mason 51 = .ok (.iload_n 1, 1) := by decide +kernel
theorem dX10_mason_52 : decode cX10_mason 52 = .ok (.iload_n 2, 1) := by decide +kernel
theorem dX10_mason_53 : decode cX10_mason 53 = .ok (.invokevirtual 144, 3) := by decide +kernel
theorem dX10_mason_56 : decode cX10_mason 56 = .ok (.ireturn, 1) := by decide +kernel
theorem dX10_mason_57 : decode cX10_mason 57 = .ok (.aload_n 0, 1) := by decide +kernel
theorem dX10_mason_58 : decode cX10_mason 58 = .ok (.getfield 19, 3) := by decide +kernel
theorem dX10_mason_61 : decode cX10_mason 61 = .ok (.getfield 95, 3) := by decide +kernel
theorem dX10_mason_64 : decode cX10_mason 64 = .ok (.iconst 1, 1) := by decide +kernel
theorem dX10_mason_65 : decode cX10_mason 65 = .ok (.iload_n 1, 1) := by decide +kernel
theorem dX10_mason_66 : decode cX10_mason 66 = .ok (.iconst 3, 1) := by decide +kernel
theorem dX10_mason_67 : decode cX10_mason 67 = .ok (.iconst 3, 1) := by decide +kernel
theorem dX10_mason_68 : decode cX10_mason 68 = .ok (.invokevirtual 147, 3) := by decide +kernel
theorem dX10_mason_71 : decode cX10_mason 71 = .ok (.ireturn, 1) := by decide +kernel
theorem dX10_mason_72 : decode cX10_mason 72 = .ok (.aload_n 0, 1) := by decide +kernel
theorem dX10_mason_73 : decode cX10_mason 73 = .ok (.getfield 19, 3) := by decide +kernel
theorem dX10_mason_76 : decode cX10_mason 76 = .ok (.iload_n 1, 1) := by decide +kernel
theorem dX10_mason_77 : decode cX10_mason 77 = .ok (.invokevirtual 159, 3) := by decide +kernel
theorem dX10_mason_80 : decode cX10_mason 80 = .ok (.ireturn, 1) := by decide +kernel
theorem dX10_mason_81 : decode cX10_mason 81 = .ok (.new 51, 3) := by decide +kernel
theorem dX10_mason_84 : decode cX10_mason 84 = .ok (.dup, 1) := by decide +kernel
theorem dX10_mason_85 : decode cX10_mason 85 = .ok (.ldc 162, 2) := by decide +kernel
theorem dX10_mason_87 : decode cX10_mason 87 = .ok (.invokespecial 55, 3) := by decide +kernel
theorem dX10_mason_90 : decode cX10_mason 90 = .ok (.athrow, 1) := by decide +kernel
theorem dX10_stone_0 : decode cX10_stone 0 = .ok (.aload_n 0, 1) := by decide +kernel
theorem dX10_stone_1 : decode cX10_stone 1 = .ok (.iload_n 1, 1) := by decide +kernel
theorem dX10_stone_2 : decode cX10_stone 2 = .ok (.invokevirtual 164, 3) := by decide +kernel
theorem dX10_stone_5 : decode cX10_stone 5 = .ok (.iload_n 2, 1) := by decide +kernel
theorem dX10_stone_6 : decode cX10_stone 6 = .ok (.iconst 0, 1) := by decide +kernel
theorem dX10_stone_7 : decode cX10_stone 7 = .ok (.iconst 5, 1) := by decide +kernel
theorem dX10_stone_8 : decode cX10_stone 8 = .ok (.invokestatic 47, 3) := by decide +kernel
theorem dX10_stone_11 : decode cX10_stone 11 = .ok (.ifCond .ne 13, 3) := by decide +kernel
theorem dX10_stone_14 : decode cX10_stone 14 = .ok (.new 51, 3) := by decide +kernel
theorem dX10_stone_17 : decode cX10_stone 17 = .ok (.dup, 1) := by decide +kernel
theorem dX10_stone_18 : decode cX10_stone 18 = .ok (.ldc 162, 2) := by decide +kernel
theorem dX10_stone_20 : decode cX10_stone 20 = .ok (.invokespecial 55, 3) := by decide +kernel
theorem dX10_stone_23 : decode cX10_stone 23 = .ok (.athrow, 1) := by decide +kernel
theorem dX10_stone_24 : decode cX10_stone 24 = .ok (.aload_n 0, 1) := by decide +kernel
theorem dX10_stone_25 : decode cX10_stone 25 = .ok (.getfield 19, 3) := by decide +kernel
theorem dX10_stone_28 : decode cX10_stone 28 = .ok (.getfield 95, 3) := by decide +kernel
theorem dX10_stone_31 : decode cX10_stone 31 = .ok (.iload_n 1, 1) := by decide +kernel
theorem dX10_stone_32 : decode cX10_stone 32 = .ok (.iload_n 2, 1) := by decide +kernel
theorem dX10_stone_33 : decode cX10_stone 33 = .ok (.invokevirtual 144, 3) := by decide +kernel
theorem dX10_stone_36 : decode cX10_stone 36 = .ok (.ireturn, 1) := by decide +kernel
theorem dX10_whyNotSet_0 : decode cX10_whyNotSet 0 = .ok (.aload_n 0, 1) := by decide +kernel
theorem dX10_whyNotSet_1 : decode cX10_whyNotSet 1 = .ok (.iload_n 1, 1) := by decide +kernel
theorem dX10_whyNotSet_2 : decode cX10_whyNotSet 2 = .ok (.invokevirtual 164, 3) := by decide +kernel
theorem dX10_whyNotSet_5 : decode cX10_whyNotSet 5 = .ok (.aload_n 0, 1) := by decide +kernel
theorem dX10_whyNotSet_6 : decode cX10_whyNotSet 6 = .ok (.getfield 19, 3) := by decide +kernel
theorem dX10_whyNotSet_9 : decode cX10_whyNotSet 9 = .ok (.iload_n 1, 1) := by decide +kernel
theorem dX10_whyNotSet_10 : decode cX10_whyNotSet 10 = .ok (.invokevirtual 167, 3) := by decide +kernel
theorem dX10_whyNotSet_13 : decode cX10_whyNotSet 13 = .ok (.ireturn, 1) := by decide +kernel
theorem dX10_addCourse_0 : decode cX10_addCourse 0 = .ok (.iload_n 1, 1) := by decide +kernel
theorem dX10_addCourse_1 : decode cX10_addCourse 1 = .ok (.iconst 1, 1) := by decide +kernel
theorem dX10_addCourse_2 : decode cX10_addCourse 2 = .ok (.bipush 9, 2) := by decide +kernel
theorem dX10_addCourse_4 : decode cX10_addCourse 4 = .ok (.invokestatic 47, 3) := by decide +kernel
theorem dX10_addCourse_7 : decode cX10_addCourse 7 = .ok (.ifCond .eq 23, 3) := by decide +kernel
theorem dX10_addCourse_10 : decode cX10_addCourse 10 = .ok (.iload_n 2, 1) := by decide +kernel
theorem dX10_addCourse_11 : decode cX10_addCourse 11 = .ok (.iconst 1, 1) := by decide +kernel
theorem dX10_addCourse_12 : decode cX10_addCourse 12 = .ok (.bipush 6, 2) := by decide +kernel
theorem dX10_addCourse_14 : decode cX10_addCourse 14 = .ok (.invokestatic 47, 3) := by decide +kernel
theorem dX10_addCourse_17 : decode cX10_addCourse 17 = .ok (.ifCond .eq 13, 3) := by decide +kernel
theorem dX10_addCourse_20 : decode cX10_addCourse 20 = .ok (.iload_n 3, 1) := by decide +kernel
theorem dX10_addCourse_21 : decode cX10_addCourse 21 = .ok (.iconst 1, 1) := by decide +kernel
theorem dX10_addCourse_22 : decode cX10_addCourse 22 = .ok (.bipush 9, 2) := by decide +kernel
theorem dX10_addCourse_24 : decode cX10_addCourse 24 = .ok (.invokestatic 47, 3) := by decide +kernel
theorem dX10_addCourse_27 : decode cX10_addCourse 27 = .ok (.ifCond .ne 13, 3) := by decide +kernel
theorem dX10_addCourse_30 : decode cX10_addCourse 30 = .ok (.new 51, 3) := by decide +kernel
theorem dX10_addCourse_33 : decode cX10_addCourse 33 = .ok (.dup, 1) := by decide +kernel
theorem dX10_addCourse_34 : decode cX10_addCourse 34 = .ok (.ldc 170, 2) := by decide +kernel
theorem dX10_addCourse_36 : decode cX10_addCourse 36 = .ok (.invokespecial 55, 3) := by decide +kernel
theorem dX10_addCourse_39 : decode cX10_addCourse 39 = .ok (.athrow, 1) := by decide +kernel
theorem dX10_addCourse_40 : decode cX10_addCourse 40 = .ok (.aload_n 0, 1) := by decide +kernel
theorem dX10_addCourse_41 : decode cX10_addCourse 41 = .ok (.getfield 19, 3) := by decide +kernel
theorem dX10_addCourse_44 : decode cX10_addCourse 44 = .ok (.getfield 104, 3) := by decide +kernel
theorem dX10_addCourse_47 : decode cX10_addCourse 47 = .ok (.invokevirtual 172, 3) := by decide +kernel
theorem dX10_addCourse_50 : decode cX10_addCourse 50 = .ok (.ifCond .ne 13, 3) := by decide +kernel
theorem dX10_addCourse_53 : decode cX10_addCourse 53 = .ok (.new 62, 3) := by decide +kernel
theorem dX10_addCourse_56 : decode cX10_addCourse 56 = .ok (.dup, 1) := by decide +kernel
theorem dX10_addCourse_57 : decode cX10_addCourse 57 = .ok (.ldc 175, 2) := by decide +kernel
theorem dX10_addCourse_59 : decode cX10_addCourse 59 = .ok (.invokespecial 66, 3) := by decide +kernel
theorem dX10_addCourse_62 : decode cX10_addCourse 62 = .ok (.athrow, 1) := by decide +kernel
theorem dX10_addCourse_63 : decode cX10_addCourse 63 = .ok (.aload_n 0, 1) := by decide +kernel
theorem dX10_addCourse_64 : decode cX10_addCourse 64 = .ok (.getfield 29, 3) := by decide +kernel
theorem dX10_addCourse_67 : decode cX10_addCourse 67 = .ok (.aload_n 0, 1) := by decide +kernel
theorem dX10_addCourse_68 : decode cX10_addCourse 68 = .ok (.getfield 19, 3) := by decide +kernel
theorem dX10_addCourse_71 : decode cX10_addCourse 71 = .ok (.invokevirtual 177, 3) := by decide +kernel
theorem dX10_addCourse_74 : decode cX10_addCourse 74 = .ok (.aload_n 0, 1) := by decide +kernel
theorem dX10_addCourse_75 : decode cX10_addCourse 75 = .ok (.getfield 19, 3) := by decide +kernel
theorem dX10_addCourse_78 : decode cX10_addCourse 78 = .ok (.iload_n 1, 1) := by decide +kernel
theorem dX10_addCourse_79 : decode cX10_addCourse 79 = .ok (.iload_n 2, 1) := by decide +kernel
theorem dX10_addCourse_80 : decode cX10_addCourse 80 = .ok (.iload_n 3, 1) := by decide +kernel
theorem dX10_addCourse_81 : decode cX10_addCourse 81 = .ok (.invokevirtual 181, 3) := by decide +kernel
theorem dX10_addCourse_84 : decode cX10_addCourse 84 = .ok (.ireturn, 1) := by decide +kernel
theorem dX10_addMason_0 : decode cX10_addMason 0 = .ok (.iload_n 1, 1) := by decide +kernel
theorem dX10_addMason_1 : decode cX10_addMason 1 = .ok (.iconst 1, 1) := by decide +kernel
theorem dX10_addMason_2 : decode cX10_addMason 2 = .ok (.bipush 9, 2) := by decide +kernel
theorem dX10_addMason_4 : decode cX10_addMason 4 = .ok (.invokestatic 47, 3) := by decide +kernel
theorem dX10_addMason_7 : decode cX10_addMason 7 = .ok (.ifCond .eq 13, 3) := by decide +kernel
theorem dX10_addMason_10 : decode cX10_addMason 10 = .ok (.iload_n 2, 1) := by decide +kernel
theorem dX10_addMason_11 : decode cX10_addMason 11 = .ok (.iconst 1, 1) := by decide +kernel
theorem dX10_addMason_12 : decode cX10_addMason 12 = .ok (.bipush 12, 2) := by decide +kernel
theorem dX10_addMason_14 : decode cX10_addMason 14 = .ok (.invokestatic 47, 3) := by decide +kernel
theorem dX10_addMason_17 : decode cX10_addMason 17 = .ok (.ifCond .ne 13, 3) := by decide +kernel
theorem dX10_addMason_20 : decode cX10_addMason 20 = .ok (.new 51, 3) := by decide +kernel
theorem dX10_addMason_23 : decode cX10_addMason 23 = .ok (.dup, 1) := by decide +kernel
theorem dX10_addMason_24 : decode cX10_addMason 24 = .ok (.ldc 185, 2) := by decide +kernel
theorem dX10_addMason_26 : decode cX10_addMason 26 = .ok (.invokespecial 55, 3) := by decide +kernel
theorem dX10_addMason_29 : decode cX10_addMason 29 = .ok (.athrow, 1) := by decide +kernel
theorem dX10_addMason_30 : decode cX10_addMason 30 = .ok (.aload_n 0, 1) := by decide +kernel
theorem dX10_addMason_31 : decode cX10_addMason 31 = .ok (.getfield 19, 3) := by decide +kernel
theorem dX10_addMason_34 : decode cX10_addMason 34 = .ok (.getfield 107, 3) := by decide +kernel
theorem dX10_addMason_37 : decode cX10_addMason 37 = .ok (.invokevirtual 172, 3) := by decide +kernel
theorem dX10_addMason_40 : decode cX10_addMason 40 = .ok (.ifCond .ne 13, 3) := by decide +kernel
theorem dX10_addMason_43 : decode cX10_addMason 43 = .ok (.new 62, 3) := by decide +kernel
theorem dX10_addMason_46 : decode cX10_addMason 46 = .ok (.dup, 1) := by decide +kernel
theorem dX10_addMason_47 : decode cX10_addMason 47 = .ok (.ldc 187, 2) := by decide +kernel
theorem dX10_addMason_49 : decode cX10_addMason 49 = .ok (.invokespecial 66, 3) := by decide +kernel
theorem dX10_addMason_52 : decode cX10_addMason 52 = .ok (.athrow, 1) := by decide +kernel
theorem dX10_addMason_53 : decode cX10_addMason 53 = .ok (.aload_n 0, 1) := by decide +kernel
theorem dX10_addMason_54 : decode cX10_addMason 54 = .ok (.getfield 29, 3) := by decide +kernel
theorem dX10_addMason_57 : decode cX10_addMason 57 = .ok (.aload_n 0, 1) := by decide +kernel
theorem dX10_addMason_58 : decode cX10_addMason 58 = .ok (.getfield 19, 3) := by decide +kernel
theorem dX10_addMason_61 : decode cX10_addMason 61 = .ok (.invokevirtual 177, 3) := by decide +kernel
theorem dX10_addMason_64 : decode cX10_addMason 64 = .ok (.aload_n 0, 1) := by decide +kernel
theorem dX10_addMason_65 : decode cX10_addMason 65 = .ok (.getfield 19, 3) := by decide +kernel
theorem dX10_addMason_68 : decode cX10_addMason 68 = .ok (.iload_n 1, 1) := by decide +kernel
theorem dX10_addMason_69 : decode cX10_addMason 69 = .ok (.iload_n 2, 1) := by decide +kernel
theorem dX10_addMason_70 : decode cX10_addMason 70 = .ok (.invokevirtual 189, 3) := by decide +kernel
theorem dX10_addMason_73 : decode cX10_addMason 73 = .ok (.ireturn, 1) := by decide +kernel
theorem dX10_setRate_0 : decode cX10_setRate 0 = .ok (.aload_n 0, 1) := by decide +kernel
theorem dX10_setRate_1 : decode cX10_setRate 1 = .ok (.iload_n 1, 1) := by decide +kernel
theorem dX10_setRate_2 : decode cX10_setRate 2 = .ok (.invokevirtual 156, 3) := by decide +kernel
theorem dX10_setRate_5 : decode cX10_setRate 5 = .ok (.iload_n 2, 1) := by decide +kernel
theorem dX10_setRate_6 : decode cX10_setRate 6 = .ok (.iconst 1, 1) := by decide +kernel
theorem dX10_setRate_7 : decode cX10_setRate 7 = .ok (.bipush 9, 2) := by decide +kernel
theorem dX10_setRate_9 : decode cX10_setRate 9 = .ok (.invokestatic 47, 3) := by decide +kernel
theorem dX10_setRate_12 : decode cX10_setRate 12 = .ok (.ifCond .ne 13, 3) := by decide +kernel
theorem dX10_setRate_15 : decode cX10_setRate 15 = .ok (.new 51, 3) := by decide +kernel
theorem dX10_setRate_18 : decode cX10_setRate 18 = .ok (.dup, 1) := by decide +kernel
theorem dX10_setRate_19 : decode cX10_setRate 19 = .ok (.ldc 192, 2) := by decide +kernel
theorem dX10_setRate_21 : decode cX10_setRate 21 = .ok (.invokespecial 55, 3) := by decide +kernel
theorem dX10_setRate_24 : decode cX10_setRate 24 = .ok (.athrow, 1) := by decide +kernel
theorem dX10_setRate_25 : decode cX10_setRate 25 = .ok (.aload_n 0, 1) := by decide +kernel
theorem dX10_setRate_26 : decode cX10_setRate 26 = .ok (.getfield 29, 3) := by decide +kernel
theorem dX10_setRate_29 : decode cX10_setRate 29 = .ok (.aload_n 0, 1) := by decide +kernel
theorem dX10_setRate_30 : decode cX10_setRate 30 = .ok (.getfield 19, 3) := by decide +kernel
theorem dX10_setRate_33 : decode cX10_setRate 33 = .ok (.invokevirtual 177, 3) := by decide +kernel
theorem dX10_setRate_36 : decode cX10_setRate 36 = .ok (.aload_n 0, 1) := by decide +kernel
theorem dX10_setRate_37 : decode cX10_setRate 37 = .ok (.getfield 19, 3) := by decide +kernel
theorem dX10_setRate_40 : decode cX10_setRate 40 = .ok (.getfield 107, 3) := by decide +kernel
theorem dX10_setRate_43 : decode cX10_setRate 43 = .ok (.iload_n 1, 1) := by decide +kernel
theorem dX10_setRate_44 : decode cX10_setRate 44 = .ok (.iconst 0, 1) := by decide +kernel
theorem dX10_setRate_45 : decode cX10_setRate 45 = .ok (.invokevirtual 144, 3) := by decide +kernel
theorem dX10_setRate_48 : decode cX10_setRate 48 = .ok (.istore_n 3, 1) := by decide +kernel
theorem dX10_setRate_49 : decode cX10_setRate 49 = .ok (.aload_n 0, 1) := by decide +kernel
theorem dX10_setRate_50 : decode cX10_setRate 50 = .ok (.getfield 19, 3) := by decide +kernel
theorem dX10_setRate_53 : decode cX10_setRate 53 = .ok (.getfield 107, 3) := by decide +kernel
theorem dX10_setRate_56 : decode cX10_setRate 56 = .ok (.iload_n 1, 1) := by decide +kernel
theorem dX10_setRate_57 : decode cX10_setRate 57 = .ok (.iconst 0, 1) := by decide +kernel
theorem dX10_setRate_58 : decode cX10_setRate 58 = .ok (.iload_n 2, 1) := by decide +kernel
theorem dX10_setRate_59 : decode cX10_setRate 59 = .ok (.invokevirtual 194, 3) := by decide +kernel
theorem dX10_setRate_62 : decode cX10_setRate 62 = .ok (.iload_n 3, 1) := by decide +kernel
theorem dX10_setRate_63 : decode cX10_setRate 63 = .ok (.ireturn, 1) := by decide +kernel
theorem dX10_setBound_0 : decode cX10_setBound 0 = .ok (.iload_n 1, 1) := by decide +kernel
theorem dX10_setBound_1 : decode cX10_setBound 1 = .ok (.invokestatic 198, 3) := by decide +kernel
theorem dX10_setBound_4 : decode cX10_setBound 4 = .ok (.aload_n 0, 1) := by decide +kernel
theorem dX10_setBound_5 : decode cX10_setBound 5 = .ok (.getfield 29, 3) := by decide +kernel
theorem dX10_setBound_8 : decode cX10_setBound 8 = .ok (.aload_n 0, 1) := by decide +kernel
theorem dX10_setBound_9 : decode cX10_setBound 9 = .ok (.getfield 19, 3) := by decide +kernel
theorem dX10_setBound_12 : decode cX10_setBound 12 = .ok (.invokevirtual 177, 3) := by decide +kernel
theorem dX10_setBound_15 : decode cX10_setBound 15 = .ok (.aload_n 0, 1) := by decide +kernel
theorem dX10_setBound_16 : decode cX10_setBound 16 = .ok (.getfield 19, 3) := by decide +kernel
theorem dX10_setBound_19 : decode cX10_setBound 19 = .ok (.getfield 118, 3) := by decide +kernel
theorem dX10_setBound_22 : decode cX10_setBound 22 = .ok (.istore_n 2, 1) := by decide +kernel
theorem dX10_setBound_23 : decode cX10_setBound 23 = .ok (.aload_n 0, 1) := by decide +kernel
theorem dX10_setBound_24 : decode cX10_setBound 24 = .ok (.getfield 19, 3) := by decide +kernel
theorem dX10_setBound_27 : decode cX10_setBound 27 = .ok (.iload_n 1, 1) := by decide +kernel
theorem dX10_setBound_28 : decode cX10_setBound 28 = .ok (.putfield 118, 3) := by decide +kernel
theorem dX10_setBound_31 : decode cX10_setBound 31 = .ok (.iload_n 2, 1) := by decide +kernel
theorem dX10_setBound_32 : decode cX10_setBound 32 = .ok (.ireturn, 1) := by decide +kernel
theorem dX10_cut_0 : decode cX10_cut 0 = .ok (.aload_n 0, 1) := by decide +kernel
theorem dX10_cut_1 : decode cX10_cut 1 = .ok (.iload_n 1, 1) := by decide +kernel
theorem dX10_cut_2 : decode cX10_cut 2 = .ok (.invokevirtual 156, 3) := by decide +kernel
theorem dX10_cut_5 : decode cX10_cut 5 = .ok (.aload_n 0, 1) := by decide +kernel
theorem dX10_cut_6 : decode cX10_cut 6 = .ok (.iload_n 2, 1) := by decide +kernel
theorem dX10_cut_7 : decode cX10_cut 7 = .ok (.invokevirtual 140, 3) := by decide +kernel
theorem dX10_cut_10 : decode cX10_cut 10 = .ok (.iload_n 3, 1) := by decide +kernel
theorem dX10_cut_11 : decode cX10_cut 11 = .ok (.iconst 0, 1) := by decide +kernel
theorem dX10_cut_12 : decode cX10_cut 12 = .ok (.bipush 9, 2) := by decide +kernel
theorem dX10_cut_14 : decode cX10_cut 14 = .ok (.invokestatic 47, 3) := by decide +kernel
theorem dX10_cut_17 : decode cX10_cut 17 = .ok (.ifCond .ne 13, 3) := by decide +kernel
theorem dX10_cut_20 : decode cX10_cut 20 = .ok (.new 51, 3) := by decide +kernel
theorem dX10_cut_23 : decode cX10_cut 23 = .ok (.dup, 1) := by decide +kernel
theorem dX10_cut_24 : decode cX10_cut 24 = .ok (.ldc 201, 2) := by decide +kernel
theorem dX10_cut_26 : decode cX10_cut 26 = .ok (.invokespecial 55, 3) := by decide +kernel
theorem dX10_cut_29 : decode cX10_cut 29 = .ok (.athrow, 1) := by decide +kernel
theorem dX10_cut_30 : decode cX10_cut 30 = .ok (.aload_n 0, 1) := by decide +kernel
theorem dX10_cut_31 : decode cX10_cut 31 = .ok (.getfield 19, 3) := by decide +kernel
theorem dX10_cut_34 : decode cX10_cut 34 = .ok (.iload_n 1, 1) := by decide +kernel
theorem dX10_cut_35 : decode cX10_cut 35 = .ok (.iload_n 2, 1) := by decide +kernel
theorem dX10_cut_36 : decode cX10_cut 36 = .ok (.invokevirtual 203, 3) := by decide +kernel
theorem dX10_cut_39 : decode cX10_cut 39 = .ok (.ifCond .ne 13, 3) := by decide +kernel
theorem dX10_cut_42 : decode cX10_cut 42 = .ok (.new 62, 3) := by decide +kernel
theorem dX10_cut_45 : decode cX10_cut 45 = .ok (.dup, 1) := by decide +kernel
theorem dX10_cut_46 : decode cX10_cut 46 = .ok (.ldc 207, 2) := by decide +kernel
theorem dX10_cut_48 : decode cX10_cut 48 = .ok (.invokespecial 66, 3) := by decide +kernel
theorem dX10_cut_51 : decode cX10_cut 51 = .ok (.athrow, 1) := by decide +kernel
theorem dX10_cut_52 : decode cX10_cut 52 = .ok (.aload_n 0, 1) := by decide +kernel
theorem dX10_cut_53 : decode cX10_cut 53 = .ok (.getfield 29, 3) := by decide +kernel
theorem dX10_cut_56 : decode cX10_cut 56 = .ok (.aload_n 0, 1) := by decide +kernel
theorem dX10_cut_57 : decode cX10_cut 57 = .ok (.getfield 19, 3) := by decide +kernel
theorem dX10_cut_60 : decode cX10_cut 60 = .ok (.invokevirtual 177, 3) := by decide +kernel
theorem dX10_cut_63 : decode cX10_cut 63 = .ok (.aload_n 0, 1) := by decide +kernel
theorem dX10_cut_64 : decode cX10_cut 64 = .ok (.getfield 19, 3) := by decide +kernel
theorem dX10_cut_67 : decode cX10_cut 67 = .ok (.iload_n 1, 1) := by decide +kernel
theorem dX10_cut_68 : decode cX10_cut 68 = .ok (.iload_n 2, 1) := by decide +kernel
theorem dX10_cut_69 : decode cX10_cut 69 = .ok (.iload_n 3, 1) := by decide +kernel
theorem dX10_cut_70 : decode cX10_cut 70 = .ok (.invokevirtual 209, 3) := by decide +kernel
theorem dX10_cut_73 : decode cX10_cut 73 = .ok (.ireturn, 1) := by decide +kernel
theorem dX10_inspect_0 : decode cX10_inspect 0 = .ok (.aload_n 0, 1) := by decide +kernel
theorem dX10_inspect_1 : decode cX10_inspect 1 = .ok (.iload_n 1, 1) := by decide +kernel
theorem dX10_inspect_2 : decode cX10_inspect 2 = .ok (.invokevirtual 164, 3) := by decide +kernel
theorem dX10_inspect_5 : decode cX10_inspect 5 = .ok (.aload_n 0, 1) := by decide +kernel
theorem dX10_inspect_6 : decode cX10_inspect 6 = .ok (.getfield 19, 3) := by decide +kernel
theorem dX10_inspect_9 : decode cX10_inspect 9 = .ok (.iload_n 1, 1) := by decide +kernel
theorem dX10_inspect_10 : decode cX10_inspect 10 = .ok (.invokevirtual 212, 3) := by decide +kernel
theorem dX10_inspect_13 : decode cX10_inspect 13 = .ok (.ifCond .ne 13, 3) := by decide +kernel
theorem dX10_inspect_16 : decode cX10_inspect 16 = .ok (.new 62, 3) := by decide +kernel
theorem dX10_inspect_19 : decode cX10_inspect 19 = .ok (.dup, 1) := by decide +kernel
theorem dX10_inspect_20 : decode cX10_inspect 20 = .ok (.ldc 216, 2) := by decide +kernel
theorem dX10_inspect_22 : decode cX10_inspect 22 = .ok (.invokespecial 66, 3) := by decide +kernel
theorem dX10_inspect_25 : decode cX10_inspect 25 = .ok (.athrow, 1) := by decide +kernel
theorem dX10_inspect_26 : decode cX10_inspect 26 = .ok (.aload_n 0, 1) := by decide +kernel
theorem dX10_inspect_27 : decode cX10_inspect 27 = .ok (.getfield 29, 3) := by decide +kernel
theorem dX10_inspect_30 : decode cX10_inspect 30 = .ok (.aload_n 0, 1) := by decide +kernel
theorem dX10_inspect_31 : decode cX10_inspect 31 = .ok (.getfield 19, 3) := by decide +kernel
theorem dX10_inspect_34 : decode cX10_inspect 34 = .ok (.invokevirtual 177, 3) := by decide +kernel
theorem dX10_inspect_37 : decode cX10_inspect 37 = .ok (.aload_n 0, 1) := by decide +kernel
theorem dX10_inspect_38 : decode cX10_inspect 38 = .ok (.getfield 19, 3) := by decide +kernel
theorem dX10_inspect_41 : decode cX10_inspect 41 = .ok (.iload_n 1, 1) := by decide +kernel
theorem dX10_inspect_42 : decode cX10_inspect 42 = .ok (.invokevirtual 218, 3) := by decide +kernel
theorem dX10_inspect_45 : decode cX10_inspect 45 = .ok (.ireturn, 1) := by decide +kernel
theorem dX10_recut_0 : decode cX10_recut 0 = .ok (.aload_n 0, 1) := by decide +kernel
theorem dX10_recut_1 : decode cX10_recut 1 = .ok (.iload_n 1, 1) := by decide +kernel
theorem dX10_recut_2 : decode cX10_recut 2 = .ok (.invokevirtual 156, 3) := by decide +kernel
theorem dX10_recut_5 : decode cX10_recut 5 = .ok (.aload_n 0, 1) := by decide +kernel
theorem dX10_recut_6 : decode cX10_recut 6 = .ok (.iload_n 2, 1) := by decide +kernel
theorem dX10_recut_7 : decode cX10_recut 7 = .ok (.invokevirtual 164, 3) := by decide +kernel
theorem dX10_recut_10 : decode cX10_recut 10 = .ok (.aload_n 0, 1) := by decide +kernel
theorem dX10_recut_11 : decode cX10_recut 11 = .ok (.iload_n 3, 1) := by decide +kernel
theorem dX10_recut_12 : decode cX10_recut 12 = .ok (.invokevirtual 140, 3) := by decide +kernel
theorem dX10_recut_15 : decode cX10_recut 15 = .ok (.aload_n 0, 1) := by decide +kernel
theorem dX10_recut_16 : decode cX10_recut 16 = .ok (.getfield 19, 3) := by decide +kernel
theorem dX10_recut_19 : decode cX10_recut 19 = .ok (.iload_n 1, 1) := by decide +kernel
theorem dX10_recut_20 : decode cX10_recut 20 = .ok (.iload_n 2, 1) := by decide +kernel
theorem dX10_recut_21 : decode cX10_recut 21 = .ok (.iload_n 3, 1) := by decide +kernel
theorem dX10_recut_22 : decode cX10_recut 22 = .ok (.invokevirtual 221, 3) := by decide +kernel
theorem dX10_recut_25 : decode cX10_recut 25 = .ok (.ifCond .ne 13, 3) := by decide +kernel
theorem dX10_recut_28 : decode cX10_recut 28 = .ok (.new 62, 3) := by decide +kernel
theorem dX10_recut_31 : decode cX10_recut 31 = .ok (.dup, 1) := by decide +kernel
theorem dX10_recut_32 : decode cX10_recut 32 = .ok (.ldc 224, 2) := by decide +kernel
theorem dX10_recut_34 : decode cX10_recut 34 = .ok (.invokespecial 66, 3) := by decide +kernel
theorem dX10_recut_37 : decode cX10_recut 37 = .ok (.athrow, 1) := by decide +kernel
theorem dX10_recut_38 : decode cX10_recut 38 = .ok (.aload_n 0, 1) := by decide +kernel
theorem dX10_recut_39 : decode cX10_recut 39 = .ok (.getfield 29, 3) := by decide +kernel
theorem dX10_recut_42 : decode cX10_recut 42 = .ok (.aload_n 0, 1) := by decide +kernel
theorem dX10_recut_43 : decode cX10_recut 43 = .ok (.getfield 19, 3) := by decide +kernel
theorem dX10_recut_46 : decode cX10_recut 46 = .ok (.invokevirtual 177, 3) := by decide +kernel
theorem dX10_recut_49 : decode cX10_recut 49 = .ok (.aload_n 0, 1) := by decide +kernel
theorem dX10_recut_50 : decode cX10_recut 50 = .ok (.getfield 19, 3) := by decide +kernel
theorem dX10_recut_53 : decode cX10_recut 53 = .ok (.iload_n 1, 1) := by decide +kernel
theorem dX10_recut_54 : decode cX10_recut 54 = .ok (.iload_n 2, 1) := by decide +kernel
theorem dX10_recut_55 : decode cX10_recut 55 = .ok (.iload_n 3, 1) := by decide +kernel
theorem dX10_recut_56 : decode cX10_recut 56 = .ok (.invokevirtual 226, 3) := by decide +kernel
theorem dX10_recut_59 : decode cX10_recut 59 = .ok (.ireturn, 1) := by decide +kernel
theorem dX10_scrap_0 : decode cX10_scrap 0 = .ok (.aload_n 0, 1) := by decide +kernel
theorem dX10_scrap_1 : decode cX10_scrap 1 = .ok (.iload_n 1, 1) := by decide +kernel
theorem dX10_scrap_2 : decode cX10_scrap 2 = .ok (.invokevirtual 164, 3) := by decide +kernel
theorem dX10_scrap_5 : decode cX10_scrap 5 = .ok (.aload_n 0, 1) := by decide +kernel
theorem dX10_scrap_6 : decode cX10_scrap 6 = .ok (.getfield 19, 3) := by decide +kernel
theorem dX10_scrap_9 : decode cX10_scrap 9 = .ok (.iload_n 1, 1) := by decide +kernel
theorem dX10_scrap_10 : decode cX10_scrap 10 = .ok (.invokevirtual 229, 3) := by decide +kernel
theorem dX10_scrap_13 : decode cX10_scrap 13 = .ok (.ifCond .ne 13, 3) := by decide +kernel
theorem dX10_scrap_16 : decode cX10_scrap 16 = .ok (.new 62, 3) := by decide +kernel
theorem dX10_scrap_19 : decode cX10_scrap 19 = .ok (.dup, 1) := by decide +kernel
theorem dX10_scrap_20 : decode cX10_scrap 20 = .ok (.ldc 232, 2) := by decide +kernel
theorem dX10_scrap_22 : decode cX10_scrap 22 = .ok (.invokespecial 66, 3) := by decide +kernel
theorem dX10_scrap_25 : decode cX10_scrap 25 = .ok (.athrow, 1) := by decide +kernel
theorem dX10_scrap_26 : decode cX10_scrap 26 = .ok (.aload_n 0, 1) := by decide +kernel
theorem dX10_scrap_27 : decode cX10_scrap 27 = .ok (.getfield 29, 3) := by decide +kernel
theorem dX10_scrap_30 : decode cX10_scrap 30 = .ok (.aload_n 0, 1) := by decide +kernel
theorem dX10_scrap_31 : decode cX10_scrap 31 = .ok (.getfield 19, 3) := by decide +kernel
theorem dX10_scrap_34 : decode cX10_scrap 34 = .ok (.invokevirtual 177, 3) := by decide +kernel
theorem dX10_scrap_37 : decode cX10_scrap 37 = .ok (.aload_n 0, 1) := by decide +kernel
theorem dX10_scrap_38 : decode cX10_scrap 38 = .ok (.getfield 19, 3) := by decide +kernel
theorem dX10_scrap_41 : decode cX10_scrap 41 = .ok (.iload_n 1, 1) := by decide +kernel
theorem dX10_scrap_42 : decode cX10_scrap 42 = .ok (.invokevirtual 234, 3) := by decide +kernel
theorem dX10_scrap_45 : decode cX10_scrap 45 = .ok (.ireturn, 1) := by decide +kernel
theorem dX10_set_0 : decode cX10_set 0 = .ok (.aload_n 0, 1) := by decide +kernel
theorem dX10_set_1 : decode cX10_set 1 = .ok (.iload_n 1, 1) := by decide +kernel
theorem dX10_set_2 : decode cX10_set 2 = .ok (.invokevirtual 164, 3) := by decide +kernel
theorem dX10_set_5 : decode cX10_set 5 = .ok (.aload_n 0, 1) := by decide +kernel
theorem dX10_set_6 : decode cX10_set 6 = .ok (.getfield 19, 3) := by decide +kernel
theorem dX10_set_9 : decode cX10_set 9 = .ok (.iload_n 1, 1) := by decide +kernel
theorem dX10_set_10 : decode cX10_set 10 = .ok (.invokevirtual 167, 3) := by decide +kernel
theorem dX10_set_13 : decode cX10_set 13 = .ok (.ifCond .eq 13, 3) := by decide +kernel
theorem dX10_set_16 : decode cX10_set 16 = .ok (.new 62, 3) := by decide +kernel
theorem dX10_set_19 : decode cX10_set 19 = .ok (.dup, 1) := by decide +kernel
theorem dX10_set_20 : decode cX10_set 20 = .ok (.ldc 237, 2) := by decide +kernel
theorem dX10_set_22 : decode cX10_set 22 = .ok (.invokespecial 66, 3) := by decide +kernel
theorem dX10_set_25 : decode cX10_set 25 = .ok (.athrow, 1) := by decide +kernel
theorem dX10_set_26 : decode cX10_set 26 = .ok (.aload_n 0, 1) := by decide +kernel
theorem dX10_set_27 : decode cX10_set 27 = .ok (.getfield 29, 3) := by decide +kernel
theorem dX10_set_30 : decode cX10_set 30 = .ok (.aload_n 0, 1) := by decide +kernel
theorem dX10_set_31 : decode cX10_set 31 = .ok (.getfield 19, 3) := by decide +kernel
theorem dX10_set_34 : decode cX10_set 34 = .ok (.invokevirtual 177, 3) := by decide +kernel
theorem dX10_set_37 : decode cX10_set 37 = .ok (.aload_n 0, 1) := by decide +kernel
theorem dX10_set_38 : decode cX10_set 38 = .ok (.getfield 19, 3) := by decide +kernel
theorem dX10_set_41 : decode cX10_set 41 = .ok (.iload_n 1, 1) := by decide +kernel
theorem dX10_set_42 : decode cX10_set 42 = .ok (.invokevirtual 239, 3) := by decide +kernel
theorem dX10_set_45 : decode cX10_set 45 = .ok (.ireturn, 1) := by decide +kernel
theorem dX10_pay_0 : decode cX10_pay 0 = .ok (.aload_n 0, 1) := by decide +kernel
theorem dX10_pay_1 : decode cX10_pay 1 = .ok (.getfield 29, 3) := by decide +kernel
theorem dX10_pay_4 : decode cX10_pay 4 = .ok (.aload_n 0, 1) := by decide +kernel
theorem dX10_pay_5 : decode cX10_pay 5 = .ok (.getfield 19, 3) := by decide +kernel
theorem dX10_pay_8 : decode cX10_pay 8 = .ok (.invokevirtual 177, 3) := by decide +kernel
theorem dX10_pay_11 : decode cX10_pay 11 = .ok (.aload_n 0, 1) := by decide +kernel
theorem dX10_pay_12 : decode cX10_pay 12 = .ok (.getfield 19, 3) := by decide +kernel
theorem dX10_pay_15 : decode cX10_pay 15 = .ok (.invokevirtual 242, 3) := by decide +kernel
theorem dX10_pay_18 : decode cX10_pay 18 = .ok (.ireturn, 1) := by decide +kernel
theorem dX10_nextDay_0 : decode cX10_nextDay 0 = .ok (.aload_n 0, 1) := by decide +kernel
theorem dX10_nextDay_1 : decode cX10_nextDay 1 = .ok (.getfield 29, 3) := by decide +kernel
theorem dX10_nextDay_4 : decode cX10_nextDay 4 = .ok (.aload_n 0, 1) := by decide +kernel
theorem dX10_nextDay_5 : decode cX10_nextDay 5 = .ok (.getfield 19, 3) := by decide +kernel
theorem dX10_nextDay_8 : decode cX10_nextDay 8 = .ok (.invokevirtual 177, 3) := by decide +kernel
theorem dX10_nextDay_11 : decode cX10_nextDay 11 = .ok (.aload_n 0, 1) := by decide +kernel
theorem dX10_nextDay_12 : decode cX10_nextDay 12 = .ok (.getfield 19, 3) := by decide +kernel
theorem dX10_nextDay_15 : decode cX10_nextDay 15 = .ok (.iload_n 1, 1) := by decide +kernel
theorem dX10_nextDay_16 : decode cX10_nextDay 16 = .ok (.invokevirtual 245, 3) := by decide +kernel
theorem dX10_nextDay_19 : decode cX10_nextDay 19 = .ok (.ireturn, 1) := by decide +kernel
theorem dX10_undo_0 : decode cX10_undo 0 = .ok (.aload_n 0, 1) := by decide +kernel
theorem dX10_undo_1 : decode cX10_undo 1 = .ok (.getfield 29, 3) := by decide +kernel
theorem dX10_undo_4 : decode cX10_undo 4 = .ok (.invokevirtual 249, 3) := by decide +kernel
theorem dX10_undo_7 : decode cX10_undo 7 = .ok (.ifCond .eq 13, 3) := by decide +kernel
theorem dX10_undo_10 : decode cX10_undo 10 = .ok (.new 62, 3) := by decide +kernel
theorem dX10_undo_13 : decode cX10_undo 13 = .ok (.dup, 1) := by decide +kernel
theorem dX10_undo_14 : decode cX10_undo 14 = .ok (.ldc 252, 2) := by decide +kernel
theorem dX10_undo_16 : decode cX10_undo 16 = .ok (.invokespecial 66, 3) := by decide +kernel
theorem dX10_undo_19 : decode cX10_undo 19 = .ok (.athrow, 1) := by decide +kernel
theorem dX10_undo_20 : decode cX10_undo 20 = .ok (.aload_n 0, 1) := by decide +kernel
theorem dX10_undo_21 : decode cX10_undo 21 = .ok (.getfield 29, 3) := by decide +kernel
theorem dX10_undo_24 : decode cX10_undo 24 = .ok (.aload_n 0, 1) := by decide +kernel
theorem dX10_undo_25 : decode cX10_undo 25 = .ok (.getfield 19, 3) := by decide +kernel
theorem dX10_undo_28 : decode cX10_undo 28 = .ok (.invokevirtual 254, 3) := by decide +kernel
theorem dX10_undo_31 : decode cX10_undo 31 = .ok (.ireturn, 1) := by decide +kernel
theorem dX10_recutFor_0 : decode cX10_recutFor 0 = .ok (.aload_n 0, 1) := by decide +kernel
theorem dX10_recutFor_1 : decode cX10_recutFor 1 = .ok (.iload_n 1, 1) := by decide +kernel
theorem dX10_recutFor_2 : decode cX10_recutFor 2 = .ok (.invokevirtual 164, 3) := by decide +kernel
theorem dX10_recutFor_5 : decode cX10_recutFor 5 = .ok (.aload_n 0, 1) := by decide +kernel
theorem dX10_recutFor_6 : decode cX10_recutFor 6 = .ok (.getfield 19, 3) := by decide +kernel
theorem dX10_recutFor_9 : decode cX10_recutFor 9 = .ok (.iload_n 1, 1) := by decide +kernel
theorem dX10_recutFor_10 : decode cX10_recutFor 10 = .ok (.invokevirtual 258, 3) := by decide +kernel
theorem dX10_recutFor_13 : decode cX10_recutFor 13 = .ok (.ireturn, 1) := by decide +kernel
theorem dX10_cheapest_0 : decode cX10_cheapest 0 = .ok (.aload_n 0, 1) := by decide +kernel
theorem dX10_cheapest_1 : decode cX10_cheapest 1 = .ok (.iload_n 1, 1) := by decide +kernel
theorem dX10_cheapest_2 : decode cX10_cheapest 2 = .ok (.invokevirtual 140, 3) := by decide +kernel
theorem dX10_cheapest_5 : decode cX10_cheapest 5 = .ok (.aload_n 0, 1) := by decide +kernel
theorem dX10_cheapest_6 : decode cX10_cheapest 6 = .ok (.getfield 19, 3) := by decide +kernel
theorem dX10_cheapest_9 : decode cX10_cheapest 9 = .ok (.iload_n 1, 1) := by decide +kernel
theorem dX10_cheapest_10 : decode cX10_cheapest 10 = .ok (.invokevirtual 261, 3) := by decide +kernel
theorem dX10_cheapest_13 : decode cX10_cheapest 13 = .ok (.ireturn, 1) := by decide +kernel
theorem dX10_costLeft_0 : decode cX10_costLeft 0 = .ok (.aload_n 0, 1) := by decide +kernel
theorem dX10_costLeft_1 : decode cX10_costLeft 1 = .ok (.getfield 19, 3) := by decide +kernel
theorem dX10_costLeft_4 : decode cX10_costLeft 4 = .ok (.invokevirtual 264, 3) := by decide +kernel
theorem dX10_costLeft_7 : decode cX10_costLeft 7 = .ok (.ireturn, 1) := by decide +kernel
theorem dX10_daysLeft_0 : decode cX10_daysLeft 0 = .ok (.aload_n 0, 1) := by decide +kernel
theorem dX10_daysLeft_1 : decode cX10_daysLeft 1 = .ok (.getfield 43, 3) := by decide +kernel
theorem dX10_daysLeft_4 : decode cX10_daysLeft 4 = .ok (.aload_n 0, 1) := by decide +kernel
theorem dX10_daysLeft_5 : decode cX10_daysLeft 5 = .ok (.getfield 19, 3) := by decide +kernel
theorem dX10_daysLeft_8 : decode cX10_daysLeft 8 = .ok (.invokevirtual 267, 3) := by decide +kernel
theorem dX10_daysLeft_11 : decode cX10_daysLeft 11 = .ok (.ireturn, 1) := by decide +kernel
theorem dX10_canSet_0 : decode cX10_canSet 0 = .ok (.aload_n 0, 1) := by decide +kernel
theorem dX10_canSet_1 : decode cX10_canSet 1 = .ok (.getfield 19, 3) := by decide +kernel
theorem dX10_canSet_4 : decode cX10_canSet 4 = .ok (.invokevirtual 270, 3) := by decide +kernel
theorem dX10_canSet_7 : decode cX10_canSet 7 = .ok (.ireturn, 1) := by decide +kernel
theorem dX10_wouldEarn_0 : decode cX10_wouldEarn 0 = .ok (.iload_n 1, 1) := by decide +kernel
theorem dX10_wouldEarn_1 : decode cX10_wouldEarn 1 = .ok (.invokestatic 198, 3) := by decide +kernel
theorem dX10_wouldEarn_4 : decode cX10_wouldEarn 4 = .ok (.aload_n 0, 1) := by decide +kernel
theorem dX10_wouldEarn_5 : decode cX10_wouldEarn 5 = .ok (.getfield 19, 3) := by decide +kernel
theorem dX10_wouldEarn_8 : decode cX10_wouldEarn 8 = .ok (.iload_n 1, 1) := by decide +kernel
theorem dX10_wouldEarn_9 : decode cX10_wouldEarn 9 = .ok (.invokevirtual 273, 3) := by decide +kernel
theorem dX10_wouldEarn_12 : decode cX10_wouldEarn 12 = .ok (.ireturn, 1) := by decide +kernel
theorem dX10_runScript_0 : decode cX10_runScript 0 = .ok (.iload_n 1, 1) := by decide +kernel
theorem dX10_runScript_1 : decode cX10_runScript 1 = .ok (.iconst 1, 1) := by decide +kernel
theorem dX10_runScript_2 : decode cX10_runScript 2 = .ok (.iconst 3, 1) := by decide +kernel
theorem dX10_runScript_3 : decode cX10_runScript 3 = .ok (.invokestatic 47, 3) := by decide +kernel
theorem dX10_runScript_6 : decode cX10_runScript 6 = .ok (.ifCond .ne 14, 3) := by decide +kernel
theorem dX10_runScript_9 : decode cX10_runScript 9 = .ok (.new 51, 3) := by decide +kernel
theorem dX10_runScript_12 : decode cX10_runScript 12 = .ok (.dup, 1) := by decide +kernel
theorem dX10_runScript_13 : decode cX10_runScript 13 = .ok (.ldc_w 279, 3) := by decide +kernel
theorem dX10_runScript_16 : decode cX10_runScript 16 = .ok (.invokespecial 55, 3) := by decide +kernel
theorem dX10_runScript_19 : decode cX10_runScript 19 = .ok (.athrow, 1) := by decide +kernel
theorem dX10_runScript_20 : decode cX10_runScript 20 = .ok (.lload_n 2, 1) := by decide +kernel
theorem dX10_runScript_21 : decode cX10_runScript 21 = .ok (.lconst 0, 1) := by decide +kernel
theorem dX10_runScript_22 : decode cX10_runScript 22 = .ok (.lcmp, 1) := by decide +kernel
theorem dX10_runScript_23 : decode cX10_runScript 23 = .ok (.ifCond .lt 13, 3) := by decide +kernel
theorem dX10_runScript_26 : decode cX10_runScript 26 = .ok (.lload_n 2, 1) := by decide +kernel
theorem dX10_runScript_27 : decode cX10_runScript 27 = .ok (.iload_n 1, 1) := by decide +kernel
theorem dX10_runScript_28 : decode cX10_runScript 28 = .ok (.invokestatic 281, 3) := by decide +kernel
theorem dX10_runScript_31 : decode cX10_runScript 31 = .ok (.lconst 0, 1) := by decide +kernel
theorem dX10_runScript_32 : decode cX10_runScript 32 = .ok (.lcmp, 1) := by decide +kernel
theorem dX10_runScript_33 : decode cX10_runScript 33 = .ok (.ifCond .eq 14, 3) := by decide +kernel
theorem dX10_runScript_36 : decode cX10_runScript 36 = .ok (.new 51, 3) := by decide +kernel
theorem dX10_runScript_39 : decode cX10_runScript 39 = .ok (.dup, 1) := by decide +kernel
theorem dX10_runScript_40 : decode cX10_runScript 40 = .ok (.ldc_w 287, 3) := by decide +kernel
theorem dX10_runScript_43 : decode cX10_runScript 43 = .ok (.invokespecial 55, 3) := by decide +kernel
theorem dX10_runScript_46 : decode cX10_runScript 46 = .ok (.athrow, 1) := by decide +kernel
theorem dX10_runScript_47 : decode cX10_runScript 47 = .ok (.aload_n 0, 1) := by decide +kernel
theorem dX10_runScript_48 : decode cX10_runScript 48 = .ok (.getfield 19, 3) := by decide +kernel
theorem dX10_runScript_51 : decode cX10_runScript 51 = .ok (.aload_n 0, 1) := by decide +kernel
theorem dX10_runScript_52 : decode cX10_runScript 52 = .ok (.getfield 23, 3) := by decide +kernel
theorem dX10_runScript_55 : decode cX10_runScript 55 = .ok (.invokestatic 85, 3) := by decide +kernel
theorem dX10_runScript_58 : decode cX10_runScript 58 = .ok (.iconst 0, 1) := by decide +kernel
theorem dX10_runScript_59 : decode cX10_runScript 59 = .ok (.istore 4, 2) := by decide +kernel
theorem dX10_runScript_61 : decode cX10_runScript 61 = .ok (.iload 4, 2) := by decide +kernel
theorem dX10_runScript_63 : decode cX10_runScript 63 = .ok (.iload_n 1, 1) := by decide +kernel
theorem dX10_runScript_64 : decode cX10_runScript 64 = .ok (.if_icmp .ge 35, 3) := by decide +kernel
theorem dX10_runScript_67 : decode cX10_runScript 67 = .ok (.aload_n 0, 1) := by decide +kernel
theorem dX10_runScript_68 : decode cX10_runScript 68 = .ok (.getfield 23, 3) := by decide +kernel
theorem dX10_runScript_71 : decode cX10_runScript 71 = .ok (.lload_n 2, 1) := by decide +kernel
theorem dX10_runScript_72 : decode cX10_runScript 72 = .ok (.iload_n 1, 1) := by decide +kernel
theorem dX10_runScript_73 : decode cX10_runScript 73 = .ok (.iconst 1, 1) := by decide +kernel
theorem dX10_runScript_74 : decode cX10_runScript 74 = .ok (.isub, 1) := by decide +kernel
theorem dX10_runScript_75 : decode cX10_runScript 75 = .ok (.iload 4, 2) := by decide +kernel
theorem dX10_runScript_77 : decode cX10_runScript 77 = .ok (.isub, 1) := by decide +kernel
theorem dX10_runScript_78 : decode cX10_runScript 78 = .ok (.invokestatic 281, 3) := by decide +kernel
theorem dX10_runScript_81 : decode cX10_runScript 81 = .ok (.invokestatic 289, 3) := by decide +kernel
theorem dX10_runScript_84 : decode cX10_runScript 84 = .ok (.invokestatic 293, 3) := by decide +kernel
theorem dX10_runScript_87 : decode cX10_runScript 87 = .ok (.ifCond .ne 6, 3) := by decide +kernel
theorem dX10_runScript_90 : decode cX10_runScript 90 = .ok (.iload 4, 2) := by decide +kernel
theorem dX10_runScript_92 : decode cX10_runScript 92 = .ok (.ireturn, 1) := by decide +kernel
theorem dX10_runScript_93 : decode cX10_runScript 93 = .ok (.iinc 4 1, 3) := by decide +kernel
theorem dX10_runScript_96 : decode cX10_runScript 96 = .ok (.goto (-35), 3) := by decide +kernel
theorem dX10_runScript_99 : decode cX10_runScript 99 = .ok (.bipush (-9), 2) := by decide +kernel
theorem dX10_runScript_101 : decode cX10_runScript 101 = .ok (.ireturn, 1) := by decide +kernel
theorem dX10_simulate_0 : decode cX10_simulate 0 = .ok (.iload_n 3, 1) := by decide +kernel
theorem dX10_simulate_1 : decode cX10_simulate 1 = .ok (.iconst 1, 1) := by decide +kernel
theorem dX10_simulate_2 : decode cX10_simulate 2 = .ok (.bipush 99, 2) := by decide +kernel
theorem dX10_simulate_4 : decode cX10_simulate 4 = .ok (.invokestatic 47, 3) := by decide +kernel
theorem dX10_simulate_7 : decode cX10_simulate 7 = .ok (.ifCond .ne 14, 3) := by decide +kernel
theorem dX10_simulate_10 : decode cX10_simulate 10 = .ok (.new 51, 3) := by decide +kernel
theorem dX10_simulate_13 : decode cX10_simulate 13 = .ok (.dup, 1) := by decide +kernel
theorem dX10_simulate_14 : decode cX10_simulate 14 = .ok (.ldc_w 297, 3) := by decide +kernel
theorem dX10_simulate_17 : decode cX10_simulate 17 = .ok (.invokespecial 55, 3) := by decide +kernel
theorem dX10_simulate_20 : decode cX10_simulate 20 = .ok (.athrow, 1) := by decide +kernel
theorem dX10_simulate_21 : decode cX10_simulate 21 = .ok (.aload_n 0, 1) := by decide +kernel
theorem dX10_simulate_22 : decode cX10_simulate 22 = .ok (.getfield 19, 3) := by decide +kernel
theorem dX10_simulate_25 : decode cX10_simulate 25 = .ok (.aload_n 0, 1) := by decide +kernel
theorem dX10_simulate_26 : decode cX10_simulate 26 = .ok (.getfield 23, 3) := by decide +kernel
theorem dX10_simulate_29 : decode cX10_simulate 29 = .ok (.invokestatic 85, 3) := by decide +kernel
theorem dX10_simulate_32 : decode cX10_simulate 32 = .ok (.lload_n 1, 1) := by decide +kernel
theorem dX10_simulate_33 : decode cX10_simulate 33 = .ok (.lstore 4, 2) := by decide +kernel
theorem dX10_simulate_35 : decode cX10_simulate 35 = .ok (.iconst 0, 1) := by decide +kernel
theorem dX10_simulate_36 : decode cX10_simulate 36 = .ok (.istore 6, 2) := by decide +kernel
theorem dX10_simulate_38 : decode cX10_simulate 38 = .ok (.iload 6, 2) := by decide +kernel
theorem dX10_simulate_40 : decode cX10_simulate 40 = .ok (.iload_n 3, 1) := by decide +kernel
theorem dX10_simulate_41 : decode cX10_simulate 41 = .ok (.if_icmp .ge 34, 3) := by decide +kernel
theorem dX10_simulate_44 : decode cX10_simulate 44 = .ok (.lload 4, 2) := by decide +kernel
theorem dX10_simulate_46 : decode cX10_simulate 46 = .ok (.ldc2_w 299, 3) := by decide +kernel
theorem dX10_simulate_49 : decode cX10_simulate 49 = .ok (.lmul, 1) := by decide +kernel
theorem dX10_simulate_50 : decode cX10_simulate 50 = .ok (.ldc2_w 301, 3) := by decide +kernel
theorem dX10_simulate_53 : decode cX10_simulate 53 = .ok (.ladd, 1) := by decide +kernel
theorem dX10_simulate_54 : decode cX10_simulate 54 = .ok (.lstore 4, 2) := by decide +kernel
theorem dX10_simulate_56 : decode cX10_simulate 56 = .ok (.aload_n 0, 1) := by decide +kernel
theorem dX10_simulate_57 : decode cX10_simulate 57 = .ok (.getfield 23, 3) := by decide +kernel
theorem dX10_simulate_60 : decode cX10_simulate 60 = .ok (.lload 4, 2) := by decide +kernel
theorem dX10_simulate_62 : decode cX10_simulate 62 = .ok (.bipush 33, 2) := by decide +kernel
theorem dX10_simulate_64 : decode cX10_simulate 64 = .ok (.lushr, 1) := by decide +kernel
theorem dX10_simulate_65 : decode cX10_simulate 65 = .ok (.l2i, 1) := by decide +kernel
theorem dX10_simulate_66 : decode cX10_simulate 66 = .ok (.invokestatic 303, 3) := by decide +kernel
theorem dX10_simulate_69 : decode cX10_simulate 69 = .ok (.iinc 6 1, 3) := by decide +kernel
theorem dX10_simulate_72 : decode cX10_simulate 72 = .ok (.goto (-34), 3) := by decide +kernel
theorem dX10_simulate_75 : decode cX10_simulate 75 = .ok (.sipush 10000, 3) := by decide +kernel
theorem dX10_simulate_78 : decode cX10_simulate 78 = .ok (.aload_n 0, 1) := by decide +kernel
theorem dX10_simulate_79 : decode cX10_simulate 79 = .ok (.getfield 23, 3) := by decide +kernel
theorem dX10_simulate_82 : decode cX10_simulate 82 = .ok (.getfield 95, 3) := by decide +kernel
theorem dX10_simulate_85 : decode cX10_simulate 85 = .ok (.iconst 3, 1) := by decide +kernel
theorem dX10_simulate_86 : decode cX10_simulate 86 = .ok (.iconst 3, 1) := by decide +kernel
theorem dX10_simulate_87 : decode cX10_simulate 87 = .ok (.invokevirtual 124, 3) := by decide +kernel
theorem dX10_simulate_90 : decode cX10_simulate 90 = .ok (.imul, 1) := by decide +kernel
theorem dX10_simulate_91 : decode cX10_simulate 91 = .ok (.aload_n 0, 1) := by decide +kernel
theorem dX10_simulate_92 : decode cX10_simulate 92 = .ok (.getfield 23, 3) := by decide +kernel
theorem dX10_simulate_95 : decode cX10_simulate 95 = .ok (.getfield 107, 3) := by decide +kernel
theorem dX10_simulate_98 : decode cX10_simulate 98 = .ok (.iconst 3, 1) := by decide +kernel
theorem dX10_simulate_99 : decode cX10_simulate 99 = .ok (.invokevirtual 128, 3) := by decide +kernel
theorem dX10_simulate_102 : decode cX10_simulate 102 = .ok (.sipush 9999, 3) := by decide +kernel
theorem dX10_simulate_105 : decode cX10_simulate 105 = .ok (.invokestatic 309, 3) := by decide +kernel
theorem dX10_simulate_108 : decode cX10_simulate 108 = .ok (.iadd, 1) := by decide +kernel
theorem dX10_simulate_109 : decode cX10_simulate 109 = .ok (.ireturn, 1) := by decide +kernel
theorem dX10_save_0 : decode cX10_save 0 = .ok (.iload_n 1, 1) := by decide +kernel
theorem dX10_save_1 : decode cX10_save 1 = .ok (.invokestatic 314, 3) := by decide +kernel
theorem dX10_save_4 : decode cX10_save 4 = .ok (.aload_n 0, 1) := by decide +kernel
theorem dX10_save_5 : decode cX10_save 5 = .ok (.getfield 36, 3) := by decide +kernel
theorem dX10_save_8 : decode cX10_save 8 = .ok (.iload_n 1, 1) := by decide +kernel
theorem dX10_save_9 : decode cX10_save 9 = .ok (.aload_n 0, 1) := by decide +kernel
theorem dX10_save_10 : decode cX10_save 10 = .ok (.getfield 19, 3) := by decide +kernel
theorem dX10_save_13 : decode cX10_save 13 = .ok (.invokevirtual 317, 3) := by decide +kernel
theorem dX10_save_16 : decode cX10_save 16 = .ok (.aload_n 0, 1) := by decide +kernel
theorem dX10_save_17 : decode cX10_save 17 = .ok (.getfield 19, 3) := by decide +kernel
theorem dX10_save_20 : decode cX10_save 20 = .ok (.getfield 110, 3) := by decide +kernel
theorem dX10_save_23 : decode cX10_save 23 = .ok (.ireturn, 1) := by decide +kernel
theorem dX10_restore_0 : decode cX10_restore 0 = .ok (.iload_n 1, 1) := by decide +kernel
theorem dX10_restore_1 : decode cX10_restore 1 = .ok (.invokestatic 314, 3) := by decide +kernel
theorem dX10_restore_4 : decode cX10_restore 4 = .ok (.aload_n 0, 1) := by decide +kernel
theorem dX10_restore_5 : decode cX10_restore 5 = .ok (.getfield 36, 3) := by decide +kernel
theorem dX10_restore_8 : decode cX10_restore 8 = .ok (.iload_n 1, 1) := by decide +kernel
theorem dX10_restore_9 : decode cX10_restore 9 = .ok (.invokevirtual 321, 3) := by decide +kernel
theorem dX10_restore_12 : decode cX10_restore 12 = .ok (.ifCond .ne 14, 3) := by decide +kernel
theorem dX10_restore_15 : decode cX10_restore 15 = .ok (.new 62, 3) := by decide +kernel
theorem dX10_restore_18 : decode cX10_restore 18 = .ok (.dup, 1) := by decide +kernel
theorem dX10_restore_19 : decode cX10_restore 19 = .ok (.ldc_w 324, 3) := by decide +kernel
theorem dX10_restore_22 : decode cX10_restore 22 = .ok (.invokespecial 66, 3) := by decide +kernel
theorem dX10_restore_25 : decode cX10_restore 25 = .ok (.athrow, 1) := by decide +kernel
theorem dX10_restore_26 : decode cX10_restore 26 = .ok (.aload_n 0, 1) := by decide +kernel
theorem dX10_restore_27 : decode cX10_restore 27 = .ok (.getfield 36, 3) := by decide +kernel
theorem dX10_restore_30 : decode cX10_restore 30 = .ok (.iload_n 1, 1) := by decide +kernel
theorem dX10_restore_31 : decode cX10_restore 31 = .ok (.aload_n 0, 1) := by decide +kernel
theorem dX10_restore_32 : decode cX10_restore 32 = .ok (.getfield 19, 3) := by decide +kernel
theorem dX10_restore_35 : decode cX10_restore 35 = .ok (.invokevirtual 326, 3) := by decide +kernel
theorem dX10_restore_38 : decode cX10_restore 38 = .ok (.aload_n 0, 1) := by decide +kernel
theorem dX10_restore_39 : decode cX10_restore 39 = .ok (.getfield 29, 3) := by decide +kernel
theorem dX10_restore_42 : decode cX10_restore 42 = .ok (.invokevirtual 89, 3) := by decide +kernel
theorem dX10_restore_45 : decode cX10_restore 45 = .ok (.aload_n 0, 1) := by decide +kernel
theorem dX10_restore_46 : decode cX10_restore 46 = .ok (.getfield 19, 3) := by decide +kernel
theorem dX10_restore_49 : decode cX10_restore 49 = .ok (.getfield 110, 3) := by decide +kernel
theorem dX10_restore_52 : decode cX10_restore 52 = .ok (.ireturn, 1) := by decide +kernel
theorem dX10_requireCourse_0 : decode cX10_requireCourse 0 = .ok (.aload_n 0, 1) := by decide +kernel
theorem dX10_requireCourse_1 : decode cX10_requireCourse 1 = .ok (.getfield 19, 3) := by decide +kernel
theorem dX10_requireCourse_4 : decode cX10_requireCourse 4 = .ok (.getfield 104, 3) := by decide +kernel
theorem dX10_requireCourse_7 : decode cX10_requireCourse 7 = .ok (.iload_n 1, 1) := by decide +kernel
theorem dX10_requireCourse_8 : decode cX10_requireCourse 8 = .ok (.invokevirtual 329, 3) := by decide +kernel
theorem dX10_requireCourse_11 : decode cX10_requireCourse 11 = .ok (.ifCond .ne 14, 3) := by decide +kernel
theorem dX10_requireCourse_14 : decode cX10_requireCourse 14 = .ok (.new 332, 3) := by decide +kernel
theorem dX10_requireCourse_17 : decode cX10_requireCourse 17 = .ok (.dup, 1) := by decide +kernel
theorem dX10_requireCourse_18 : decode cX10_requireCourse 18 = .ok (.ldc_w 334, 3) := by decide +kernel
theorem dX10_requireCourse_21 : decode cX10_requireCourse 21 = .ok (.invokespecial 336, 3) := by decide +kernel
theorem dX10_requireCourse_24 : decode cX10_requireCourse 24 = .ok (.athrow, 1) := by decide +kernel
theorem dX10_requireCourse_25 : decode cX10_requireCourse 25 = .ok (.return_, 1) := by decide +kernel
theorem dX10_requireMason_0 : decode cX10_requireMason 0 = .ok (.aload_n 0, 1) := by decide +kernel
theorem dX10_requireMason_1 : decode cX10_requireMason 1 = .ok (.getfield 19, 3) := by decide +kernel
theorem dX10_requireMason_4 : decode cX10_requireMason 4 = .ok (.getfield 107, 3) := by decide +kernel
theorem dX10_requireMason_7 : decode cX10_requireMason 7 = .ok (.iload_n 1, 1) := by decide +kernel
theorem dX10_requireMason_8 : decode cX10_requireMason 8 = .ok (.invokevirtual 329, 3) := by decide +kernel
theorem dX10_requireMason_11 : decode cX10_requireMason 11 = .ok (.ifCond .ne 14, 3) := by decide +kernel
theorem dX10_requireMason_14 : decode cX10_requireMason 14 = .ok (.new 332, 3) := by decide +kernel
theorem dX10_requireMason_17 : decode cX10_requireMason 17 = .ok (.dup, 1) := by decide +kernel
theorem dX10_requireMason_18 : decode cX10_requireMason 18 = .ok (.ldc_w 337, 3) := by decide +kernel
theorem dX10_requireMason_21 : decode cX10_requireMason 21 = .ok (.invokespecial 336, 3) := by decide +kernel
theorem dX10_requireMason_24 : decode cX10_requireMason 24 = .ok (.athrow, 1) := by decide +kernel
theorem dX10_requireMason_25 : decode cX10_requireMason 25 = .ok (.return_, 1) := by decide +kernel
theorem dX10_requireStone_0 : decode cX10_requireStone 0 = .ok (.aload_n 0, 1) := by decide +kernel
theorem dX10_requireStone_1 : decode cX10_requireStone 1 = .ok (.getfield 19, 3) := by decide +kernel
theorem dX10_requireStone_4 : decode cX10_requireStone 4 = .ok (.getfield 95, 3) := by decide +kernel
theorem dX10_requireStone_7 : decode cX10_requireStone 7 = .ok (.iload_n 1, 1) := by decide +kernel
theorem dX10_requireStone_8 : decode cX10_requireStone 8 = .ok (.invokevirtual 329, 3) := by decide +kernel
theorem dX10_requireStone_11 : decode cX10_requireStone 11 = .ok (.ifCond .ne 14, 3) := by decide +kernel
theorem dX10_requireStone_14 : decode cX10_requireStone 14 = .ok (.new 332, 3) := by decide +kernel
theorem dX10_requireStone_17 : decode cX10_requireStone 17 = .ok (.dup, 1) := by decide +kernel
theorem dX10_requireStone_18 : decode cX10_requireStone 18 = .ok (.ldc_w 339, 3) := by decide +kernel
theorem dX10_requireStone_21 : decode cX10_requireStone 21 = .ok (.invokespecial 336, 3) := by decide +kernel
theorem dX10_requireStone_24 : decode cX10_requireStone 24 = .ok (.athrow, 1) := by decide +kernel
theorem dX10_requireStone_25 : decode cX10_requireStone 25 = .ok (.return_, 1) := by decide +kernel
theorem dX10_requireBound_0 : decode cX10_requireBound 0 = .ok (.iload_n 0, 1) := by decide +kernel
theorem dX10_requireBound_1 : decode cX10_requireBound 1 = .ok (.iconst 0, 1) := by decide +kernel
theorem dX10_requireBound_2 : decode cX10_requireBound 2 = .ok (.bipush 9, 2) := by decide +kernel
theorem dX10_requireBound_4 : decode cX10_requireBound 4 = .ok (.invokestatic 47, 3) := by decide +kernel
theorem dX10_requireBound_7 : decode cX10_requireBound 7 = .ok (.ifCond .ne 14, 3) := by decide +kernel
theorem dX10_requireBound_10 : decode cX10_requireBound 10 = .ok (.new 51, 3) := by decide +kernel
theorem dX10_requireBound_13 : decode cX10_requireBound 13 = .ok (.dup, 1) := by decide +kernel
theorem dX10_requireBound_14 : decode cX10_requireBound 14 = .ok (.ldc_w 341, 3) := by decide +kernel
theorem dX10_requireBound_17 : decode cX10_requireBound 17 = .ok (.invokespecial 55, 3) := by decide +kernel
theorem dX10_requireBound_20 : decode cX10_requireBound 20 = .ok (.athrow, 1) := by decide +kernel
theorem dX10_requireBound_21 : decode cX10_requireBound 21 = .ok (.return_, 1) := by decide +kernel
theorem dX10_requireSlot_0 : decode cX10_requireSlot 0 = .ok (.iload_n 0, 1) := by decide +kernel
theorem dX10_requireSlot_1 : decode cX10_requireSlot 1 = .ok (.iconst 0, 1) := by decide +kernel
theorem dX10_requireSlot_2 : decode cX10_requireSlot 2 = .ok (.iconst 1, 1) := by decide +kernel
theorem dX10_requireSlot_3 : decode cX10_requireSlot 3 = .ok (.invokestatic 47, 3) := by decide +kernel
theorem dX10_requireSlot_6 : decode cX10_requireSlot 6 = .ok (.ifCond .ne 14, 3) := by decide +kernel
theorem dX10_requireSlot_9 : decode cX10_requireSlot 9 = .ok (.new 332, 3) := by decide +kernel
theorem dX10_requireSlot_12 : decode cX10_requireSlot 12 = .ok (.dup, 1) := by decide +kernel
theorem dX10_requireSlot_13 : decode cX10_requireSlot 13 = .ok (.ldc_w 343, 3) := by decide +kernel
theorem dX10_requireSlot_16 : decode cX10_requireSlot 16 = .ok (.invokespecial 336, 3) := by decide +kernel
theorem dX10_requireSlot_19 : decode cX10_requireSlot 19 = .ok (.athrow, 1) := by decide +kernel
theorem dX10_requireSlot_20 : decode cX10_requireSlot 20 = .ok (.return_, 1) := by decide +kernel
theorem dX10_isWithin_0 : decode cX10_isWithin 0 = .ok (.iload_n 0, 1) := by decide +kernel
theorem dX10_isWithin_1 : decode cX10_isWithin 1 = .ok (.iload_n 1, 1) := by decide +kernel
theorem dX10_isWithin_2 : decode cX10_isWithin 2 = .ok (.if_icmp .lt 12, 3) := by decide +kernel
theorem dX10_isWithin_5 : decode cX10_isWithin 5 = .ok (.iload_n 0, 1) := by decide +kernel
theorem dX10_isWithin_6 : decode cX10_isWithin 6 = .ok (.iload_n 2, 1) := by decide +kernel
theorem dX10_isWithin_7 : decode cX10_isWithin 7 = .ok (.if_icmp .gt 7, 3) := by decide +kernel
theorem dX10_isWithin_10 : decode cX10_isWithin 10 = .ok (.iconst 1, 1) := by decide +kernel
theorem dX10_isWithin_11 : decode cX10_isWithin 11 = .ok (.goto 4, 3) := by decide +kernel
theorem dX10_isWithin_14 : decode cX10_isWithin 14 = .ok (.iconst 0, 1) := by decide +kernel
theorem dX10_isWithin_15 : decode cX10_isWithin 15 = .ok (.ireturn, 1) := by decide +kernel
theorem dX10_copyLodge_0 : decode cX10_copyLodge 0 = .ok (.aload_n 0, 1) := by decide +kernel
theorem dX10_copyLodge_1 : decode cX10_copyLodge 1 = .ok (.ifnull 12, 3) := by decide +kernel
theorem dX10_copyLodge_4 : decode cX10_copyLodge 4 = .ok (.aload_n 1, 1) := by decide +kernel
theorem dX10_copyLodge_5 : decode cX10_copyLodge 5 = .ok (.ifnull 8, 3) := by decide +kernel
theorem dX10_copyLodge_8 : decode cX10_copyLodge 8 = .ok (.aload_n 1, 1) := by decide +kernel
theorem dX10_copyLodge_9 : decode cX10_copyLodge 9 = .ok (.aload_n 0, 1) := by decide +kernel
theorem dX10_copyLodge_10 : decode cX10_copyLodge 10 = .ok (.invokevirtual 345, 3) := by decide +kernel
theorem dX10_copyLodge_13 : decode cX10_copyLodge 13 = .ok (.return_, 1) := by decide +kernel
