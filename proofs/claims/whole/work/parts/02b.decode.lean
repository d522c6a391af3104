theorem dX11_init_0 : decode cX11_init 0 = .ok (.aload_n 0, 1) := by decide +kernel
theorem dX11_init_1 : decode cX11_init 1 = .ok (.invokespecial 1, 3) := by decide +kernel
theorem dX11_init_4 : decode cX11_init 4 = .ok (.aload_n 0, 1) := by decide +kernel
theorem dX11_init_5 : decode cX11_init 5 = .ok (.bipush 80, 2) := by decide +kernel
theorem dX11_init_7 : decode cX11_init 7 = .ok (.newarray .int, 2) := by decide +kernel
theorem dX11_init_9 : decode cX11_init 9 = .ok (.putfield 7, 3) := by decide +kernel
theorem dX11_init_12 : decode cX11_init 12 = .ok (.aload_n 0, 1) := by decide +kernel
theorem dX11_init_13 : decode cX11_init 13 = .ok (.sipush 194, 3) := by decide +kernel
theorem dX11_init_16 : decode cX11_init 16 = .ok (.newarray .int, 2) := by decide +kernel
theorem dX11_init_18 : decode cX11_init 18 = .ok (.putfield 13, 3) := by decide +kernel
theorem dX11_init_21 : decode cX11_init 21 = .ok (.aload_n 0, 1) := by decide +kernel
theorem dX11_init_22 : decode cX11_init 22 = .ok (.sipush 194, 3) := by decide +kernel
theorem dX11_init_25 : decode cX11_init 25 = .ok (.newarray .int, 2) := by decide +kernel
theorem dX11_init_27 : decode cX11_init 27 = .ok (.putfield 16, 3) := by decide +kernel
theorem dX11_init_30 : decode cX11_init 30 = .ok (.aload_n 0, 1) := by decide +kernel
theorem dX11_init_31 : decode cX11_init 31 = .ok (.sipush 194, 3) := by decide +kernel
theorem dX11_init_34 : decode cX11_init 34 = .ok (.newarray .int, 2) := by decide +kernel
theorem dX11_init_36 : decode cX11_init 36 = .ok (.putfield 19, 3) := by decide +kernel
theorem dX11_init_39 : decode cX11_init 39 = .ok (.aload_n 0, 1) := by decide +kernel
theorem dX11_init_40 : decode cX11_init 40 = .ok (.sipush 2716, 3) := by decide +kernel
theorem dX11_init_43 : decode cX11_init 43 = .ok (.newarray .int, 2) := by decide +kernel
theorem dX11_init_45 : decode cX11_init 45 = .ok (.putfield 22, 3) := by decide +kernel
theorem dX11_init_48 : decode cX11_init 48 = .ok (.aload_n 0, 1) := by decide +kernel
theorem dX11_init_49 : decode cX11_init 49 = .ok (.sipush 388, 3) := by decide +kernel
theorem dX11_init_52 : decode cX11_init 52 = .ok (.newarray .int, 2) := by decide +kernel
theorem dX11_init_54 : decode cX11_init 54 = .ok (.putfield 25, 3) := by decide +kernel
theorem dX11_init_57 : decode cX11_init 57 = .ok (.aload_n 0, 1) := by decide +kernel
theorem dX11_init_58 : decode cX11_init 58 = .ok (.iconst 2, 1) := by decide +kernel
theorem dX11_init_59 : decode cX11_init 59 = .ok (.newarray .boolean, 2) := by decide +kernel
theorem dX11_init_61 : decode cX11_init 61 = .ok (.putfield 28, 3) := by decide +kernel
theorem dX11_init_64 : decode cX11_init 64 = .ok (.aload_n 0, 1) := by decide +kernel
theorem dX11_init_65 : decode cX11_init 65 = .ok (.bipush 6, 2) := by decide +kernel
theorem dX11_init_67 : decode cX11_init 67 = .ok (.newarray .int, 2) := by decide +kernel
theorem dX11_init_69 : decode cX11_init 69 = .ok (.putfield 32, 3) := by decide +kernel
theorem dX11_init_72 : decode cX11_init 72 = .ok (.aload_n 0, 1) := by decide +kernel
theorem dX11_init_73 : decode cX11_init 73 = .ok (.getfield 16, 3) := by decide +kernel
theorem dX11_init_76 : decode cX11_init 76 = .ok (.iconst 0, 1) := by decide +kernel
theorem dX11_init_77 : decode cX11_init 77 = .ok (.iconst 3, 1) := by decide +kernel
theorem dX11_init_78 : decode cX11_init 78 = .ok (.iastore, 1) := by decide +kernel
theorem dX11_init_79 : decode cX11_init 79 = .ok (.return_, 1) := by decide +kernel
theorem dX11_thrown_0 : decode cX11_thrown 0 = .ok (.aload_n 0, 1) := by decide +kernel
theorem dX11_thrown_1 : decode cX11_thrown 1 = .ok (.getfield 35, 3) := by decide +kernel
theorem dX11_thrown_4 : decode cX11_thrown 4 = .ok (.ireturn, 1) := by decide +kernel
theorem dX11_refused_0 : decode cX11_refused 0 = .ok (.aload_n 0, 1) := by decide +kernel
theorem dX11_refused_1 : decode cX11_refused 1 = .ok (.iload_n 1, 1) := by decide +kernel
theorem dX11_refused_2 : decode cX11_refused 2 = .ok (.putfield 35, 3) := by decide +kernel
theorem dX11_refused_5 : decode cX11_refused 5 = .ok (.iload_n 1, 1) := by decide +kernel
theorem dX11_refused_6 : decode cX11_refused 6 = .ok (.ifCond .le 7, 3) := by decide +kernel
theorem dX11_refused_9 : decode cX11_refused 9 = .ok (.iconst 1, 1) := by decide +kernel
theorem dX11_refused_10 : decode cX11_refused 10 = .ok (.goto 4, 3) := by decide +kernel
theorem dX11_refused_13 : decode cX11_refused 13 = .ok (.iconst 0, 1) := by decide +kernel
theorem dX11_refused_14 : decode cX11_refused 14 = .ok (.ireturn, 1) := by decide +kernel
theorem dX11_in_0 : decode cX11_in 0 = .ok (.lload_n 0, 1) := by decide +kernel
theorem dX11_in_1 : decode cX11_in 1 = .ok (.lload_n 2, 1) := by decide +kernel
theorem dX11_in_2 : decode cX11_in 2 = .ok (.lcmp, 1) := by decide +kernel
theorem dX11_in_3 : decode cX11_in 3 = .ok (.ifCond .lt 14, 3) := by decide +kernel
theorem dX11_in_6 : decode cX11_in 6 = .ok (.lload_n 0, 1) := by decide +kernel
theorem dX11_in_7 : decode cX11_in 7 = .ok (.lload 4, 2) := by decide +kernel
theorem dX11_in_9 : decode cX11_in 9 = .ok (.lcmp, 1) := by decide +kernel
theorem dX11_in_10 : decode cX11_in 10 = .ok (.ifCond .gt 7, 3) := by decide +kernel
theorem dX11_in_13 : decode cX11_in 13 = .ok (.iconst 1, 1) := by decide +kernel
theorem dX11_in_14 : decode cX11_in 14 = .ok (.goto 4, 3) := by decide +kernel
theorem dX11_in_17 : decode cX11_in 17 = .ok (.iconst 0, 1) := by decide +kernel
theorem dX11_in_18 : decode cX11_in 18 = .ok (.ireturn, 1) := by decide +kernel
theorem dX11_copyPage_0 : decode cX11_copyPage 0 = .ok (.iconst 0, 1) := by decide +kernel
theorem dX11_copyPage_1 : decode cX11_copyPage 1 = .ok (.istore 4, 2) := by decide +kernel
theorem dX11_copyPage_3 : decode cX11_copyPage 3 = .ok (.iload 4, 2) := by decide +kernel
theorem dX11_copyPage_5 : decode cX11_copyPage 5 = .ok (.sipush 194, 3) := by decide +kernel
theorem dX11_copyPage_8 : decode cX11_copyPage 8 = .ok (.if_icmp .ge 21, 3) := by decide +kernel
theorem dX11_copyPage_11 : decode cX11_copyPage 11 = .ok (.aload_n 2, 1) := by decide +kernel
theorem dX11_copyPage_12 : decode cX11_copyPage 12 = .ok (.iload_n 3, 1) := by decide +kernel
theorem dX11_copyPage_13 : decode cX11_copyPage 13 = .ok (.iload 4, 2) := by decide +kernel
theorem dX11_copyPage_15 : decode cX11_copyPage 15 = .ok (.iadd, 1) := by decide +kernel
theorem dX11_copyPage_16 : decode cX11_copyPage 16 = .ok (.aload_n 0, 1) := by decide +kernel
theorem dX11_copyPage_17 : decode cX11_copyPage 17 = .ok (.iload_n 1, 1) := by decide +kernel
theorem dX11_copyPage_18 : decode cX11_copyPage 18 = .ok (.iload 4, 2) := by decide +kernel
theorem dX11_copyPage_20 : decode cX11_copyPage 20 = .ok (.iadd, 1) := by decide +kernel
theorem dX11_copyPage_21 : decode cX11_copyPage 21 = .ok (.iaload, 1) := by decide +kernel
theorem dX11_copyPage_22 : decode cX11_copyPage 22 = .ok (.iastore, 1) := by decide +kernel
theorem dX11_copyPage_23 : decode cX11_copyPage 23 = .ok (.iinc 4 1, 3) := by decide +kernel
theorem dX11_copyPage_26 : decode cX11_copyPage 26 = .ok (.goto (-23), 3) := by decide +kernel
theorem dX11_copyPage_29 : decode cX11_copyPage 29 = .ok (.return_, 1) := by decide +kernel
theorem dX11_isCourse_0 : decode cX11_isCourse 0 = .ok (.iload_n 1, 1) := by decide +kernel
theorem dX11_isCourse_1 : decode cX11_isCourse 1 = .ok (.i2l, 1) := by decide +kernel
theorem dX11_isCourse_2 : decode cX11_isCourse 2 = .ok (.lconst 0, 1) := by decide +kernel
theorem dX11_isCourse_3 : decode cX11_isCourse 3 = .ok (.aload_n 0, 1) := by decide +kernel
theorem dX11_isCourse_4 : decode cX11_isCourse 4 = .ok (.iconst 5, 1) := by decide +kernel
theorem dX11_isCourse_5 : decode cX11_isCourse 5 = .ok (.iaload, 1) := by decide +kernel
theorem dX11_isCourse_6 : decode cX11_isCourse 6 = .ok (.iconst 1, 1) := by decide +kernel
theorem dX11_isCourse_7 : decode cX11_isCourse 7 = .ok (.isub, 1) := by decide +kernel
theorem dX11_isCourse_8 : decode cX11_isCourse 8 = .ok (.i2l, 1) := by decide +kernel
theorem dX11_isCourse_9 : decode cX11_isCourse 9 = .ok (.invokestatic 39, 3) := by decide +kernel
theorem dX11_isCourse_12 : decode cX11_isCourse 12 = .ok (.ireturn, 1) := by decide +kernel
theorem dX11_isMason_0 : decode cX11_isMason 0 = .ok (.iload_n 1, 1) := by decide +kernel
theorem dX11_isMason_1 : decode cX11_isMason 1 = .ok (.i2l, 1) := by decide +kernel
theorem dX11_isMason_2 : decode cX11_isMason 2 = .ok (.lconst 0, 1) := by decide +kernel
theorem dX11_isMason_3 : decode cX11_isMason 3 = .ok (.aload_n 0, 1) := by decide +kernel
theorem dX11_isMason_4 : decode cX11_isMason 4 = .ok (.bipush 6, 2) := by decide +kernel
theorem dX11_isMason_6 : decode cX11_isMason 6 = .ok (.iaload, 1) := by decide +kernel
theorem dX11_isMason_7 : decode cX11_isMason 7 = .ok (.iconst 1, 1) := by decide +kernel
theorem dX11_isMason_8 : decode cX11_isMason 8 = .ok (.isub, 1) := by decide +kernel
theorem dX11_isMason_9 : decode cX11_isMason 9 = .ok (.i2l, 1) := by decide +kernel
theorem dX11_isMason_10 : decode cX11_isMason 10 = .ok (.invokestatic 39, 3) := by decide +kernel
theorem dX11_isMason_13 : decode cX11_isMason 13 = .ok (.ireturn, 1) := by decide +kernel
theorem dX11_isStone_0 : decode cX11_isStone 0 = .ok (.iload_n 1, 1) := by decide +kernel
theorem dX11_isStone_1 : decode cX11_isStone 1 = .ok (.i2l, 1) := by decide +kernel
theorem dX11_isStone_2 : decode cX11_isStone 2 = .ok (.lconst 0, 1) := by decide +kernel
theorem dX11_isStone_3 : decode cX11_isStone 3 = .ok (.aload_n 0, 1) := by decide +kernel
theorem dX11_isStone_4 : decode cX11_isStone 4 = .ok (.bipush 7, 2) := by decide +kernel
theorem dX11_isStone_6 : decode cX11_isStone 6 = .ok (.iaload, 1) := by decide +kernel
theorem dX11_isStone_7 : decode cX11_isStone 7 = .ok (.iconst 1, 1) := by decide +kernel
theorem dX11_isStone_8 : decode cX11_isStone 8 = .ok (.isub, 1) := by decide +kernel
theorem dX11_isStone_9 : decode cX11_isStone 9 = .ok (.i2l, 1) := by decide +kernel
theorem dX11_isStone_10 : decode cX11_isStone 10 = .ok (.invokestatic 39, 3) := by decide +kernel
theorem dX11_isStone_13 : decode cX11_isStone 13 = .ok (.ireturn, 1) := by decide +kernel
theorem dX11_sizeOf_0 : decode cX11_sizeOf 0 = .ok (.aload_n 0, 1) := by decide +kernel
theorem dX11_sizeOf_1 : decode cX11_sizeOf 1 = .ok (.bipush 8, 2) := by decide +kernel
theorem dX11_sizeOf_3 : decode cX11_sizeOf 3 = .ok (.iconst 3, 1) := by decide +kernel
theorem dX11_sizeOf_4 : decode cX11_sizeOf 4 = .ok (.iload_n 1, 1) := by decide +kernel
theorem dX11_sizeOf_5 : decode cX11_sizeOf 5 = .ok (.imul, 1) := by decide +kernel
theorem dX11_sizeOf_6 : decode cX11_sizeOf 6 = .ok (.iadd, 1) := by decide +kernel
theorem dX11_sizeOf_7 : decode cX11_sizeOf 7 = .ok (.iaload, 1) := by decide +kernel
theorem dX11_sizeOf_8 : decode cX11_sizeOf 8 = .ok (.ireturn, 1) := by decide +kernel
theorem dX11_facesOf_0 : decode cX11_facesOf 0 = .ok (.aload_n 0, 1) := by decide +kernel
theorem dX11_facesOf_1 : decode cX11_facesOf 1 = .ok (.bipush 8, 2) := by decide +kernel
theorem dX11_facesOf_3 : decode cX11_facesOf 3 = .ok (.iconst 3, 1) := by decide +kernel
theorem dX11_facesOf_4 : decode cX11_facesOf 4 = .ok (.iload_n 1, 1) := by decide +kernel
theorem dX11_facesOf_5 : decode cX11_facesOf 5 = .ok (.imul, 1) := by decide +kernel
theorem dX11_facesOf_6 : decode cX11_facesOf 6 = .ok (.iadd, 1) := by decide +kernel
theorem dX11_facesOf_7 : decode cX11_facesOf 7 = .ok (.iconst 1, 1) := by decide +kernel
theorem dX11_facesOf_8 : decode cX11_facesOf 8 = .ok (.iadd, 1) := by decide +kernel
theorem dX11_facesOf_9 : decode cX11_facesOf 9 = .ok (.iaload, 1) := by decide +kernel
theorem dX11_facesOf_10 : decode cX11_facesOf 10 = .ok (.ireturn, 1) := by decide +kernel
theorem dX11_neededOf_0 : decode cX11_neededOf 0 = .ok (.aload_n 0, 1) := by decide +kernel
theorem dX11_neededOf_1 : decode cX11_neededOf 1 = .ok (.bipush 8, 2) := by decide +kernel
theorem dX11_neededOf_3 : decode cX11_neededOf 3 = .ok (.iconst 3, 1) := by decide +kernel
theorem dX11_neededOf_4 : decode cX11_neededOf 4 = .ok (.iload_n 1, 1) := by decide +kernel
theorem dX11_neededOf_5 : decode cX11_neededOf 5 = .ok (.imul, 1) := by decide +kernel
theorem dX11_neededOf_6 : decode cX11_neededOf 6 = .ok (.iadd, 1) := by decide +kernel
theorem dX11_neededOf_7 : decode cX11_neededOf 7 = .ok (.iconst 2, 1) := by decide +kernel
theorem dX11_neededOf_8 : decode cX11_neededOf 8 = .ok (.iadd, 1) := by decide +kernel
theorem dX11_neededOf_9 : decode cX11_neededOf 9 = .ok (.iaload, 1) := by decide +kernel
theorem dX11_neededOf_10 : decode cX11_neededOf 10 = .ok (.ireturn, 1) := by decide +kernel
theorem dX11_stonesOf_0 : decode cX11_stonesOf 0 = .ok (.iconst 0, 1) := by decide +kernel
theorem dX11_stonesOf_1 : decode cX11_stonesOf 1 = .ok (.istore_n 3, 1) := by decide +kernel
theorem dX11_stonesOf_2 : decode cX11_stonesOf 2 = .ok (.iconst 0, 1) := by decide +kernel
theorem dX11_stonesOf_3 : decode cX11_stonesOf 3 = .ok (.istore 4, 2) := by decide +kernel
theorem dX11_stonesOf_5 : decode cX11_stonesOf 5 = .ok (.iload 4, 2) := by decide +kernel
theorem dX11_stonesOf_7 : decode cX11_stonesOf 7 = .ok (.aload_n 0, 1) := by decide +kernel
theorem dX11_stonesOf_8 : decode cX11_stonesOf 8 = .ok (.bipush 7, 2) := by decide +kernel
theorem dX11_stonesOf_10 : decode cX11_stonesOf 10 = .ok (.iaload, 1) := by decide +kernel
theorem dX11_stonesOf_11 : decode cX11_stonesOf 11 = .ok (.if_icmp .ge 47, 3) := by decide +kernel
theorem dX11_stonesOf_14 : decode cX11_stonesOf 14 = .ok (.iload_n 3, 1) := by decide +kernel
theorem dX11_stonesOf_15 : decode cX11_stonesOf 15 = .ok (.aload_n 0, 1) := by decide +kernel
theorem dX11_stonesOf_16 : decode cX11_stonesOf 16 = .ok (.bipush 50, 2) := by decide +kernel
theorem dX11_stonesOf_18 : decode cX11_stonesOf 18 = .ok (.bipush 6, 2) := by decide +kernel
theorem dX11_stonesOf_20 : decode cX11_stonesOf 20 = .ok (.iload 4, 2) := by decide +kernel
theorem dX11_stonesOf_22 : decode cX11_stonesOf 22 = .ok (.imul, 1) := by decide +kernel
theorem dX11_stonesOf_23 : decode cX11_stonesOf 23 = .ok (.iadd, 1) := by decide +kernel
theorem dX11_stonesOf_24 : decode cX11_stonesOf 24 = .ok (.iaload, 1) := by decide +kernel
theorem dX11_stonesOf_25 : decode cX11_stonesOf 25 = .ok (.iload_n 1, 1) := by decide +kernel
theorem dX11_stonesOf_26 : decode cX11_stonesOf 26 = .ok (.if_icmp .ne 23, 3) := by decide +kernel
theorem dX11_stonesOf_29 : decode cX11_stonesOf 29 = .ok (.aload_n 0, 1) := by decide +kernel
theorem dX11_stonesOf_30 : decode cX11_stonesOf 30 = .ok (.bipush 50, 2) := by decide +kernel
theorem dX11_stonesOf_32 : decode cX11_stonesOf 32 = .ok (.bipush 6, 2) := by decide +kernel
theorem dX11_stonesOf_34 : decode cX11_stonesOf 34 = .ok (.iload 4, 2) := by decide +kernel
theorem dX11_stonesOf_36 : decode cX11_stonesOf 36 = .ok (.imul, 1) := by decide +kernel
theorem dX11_stonesOf_37 : decode cX11_stonesOf 37 = .ok (.iadd, 1) := by decide +kernel
theorem dX11_stonesOf_38 : decode cX11_stonesOf 38 = .ok (.iconst 3, 1) := by decide +kernel
theorem dX11_stonesOf_39 : decode cX11_stonesOf 39 = .ok (.iadd, 1) := by decide +kernel
theorem dX11_stonesOf_40 : decode cX11_stonesOf 40 = .ok (.iaload, 1) := by decide +kernel
theorem dX11_stonesOf_41 : decode cX11_stonesOf 41 = .ok (.iload_n 2, 1) := by decide +kernel
theorem dX11_stonesOf_42 : decode cX11_stonesOf 42 = .ok (.if_icmp .ne 7, 3) := by decide +kernel
theorem dX11_stonesOf_45 : decode cX11_stonesOf 45 = .ok (.iconst 1, 1) := by decide +kernel
theorem dX11_stonesOf_46 : decode cX11_stonesOf 46 = .ok (.goto 4, 3) := by decide +kernel
theorem dX11_stonesOf_49 : decode cX11_stonesOf 49 = .ok (.iconst 0, 1) := by decide +kernel
theorem dX11_stonesOf_50 : decode cX11_stonesOf 50 = .ok (.iadd, 1) := by decide +kernel
theorem dX11_stonesOf_51 : decode cX11_stonesOf 51 = .ok (.istore_n 3, 1) := by decide +kernel
theorem dX11_stonesOf_52 : decode cX11_stonesOf 52 = .ok (.iinc 4 1, 3) := by decide +kernel
theorem dX11_stonesOf_55 : decode cX11_stonesOf 55 = .ok (.goto (-50), 3) := by decide +kernel
theorem dX11_stonesOf_58 : decode cX11_stonesOf 58 = .ok (.iload_n 3, 1) := by decide +kernel
theorem dX11_stonesOf_59 : decode cX11_stonesOf 59 = .ok (.ireturn, 1) := by decide +kernel
theorem dX11_stonesWith_0 : decode cX11_stonesWith 0 = .ok (.iconst 0, 1) := by decide +kernel
theorem dX11_stonesWith_1 : decode cX11_stonesWith 1 = .ok (.istore_n 2, 1) := by decide +kernel
theorem dX11_stonesWith_2 : decode cX11_stonesWith 2 = .ok (.iconst 0, 1) := by decide +kernel
theorem dX11_stonesWith_3 : decode cX11_stonesWith 3 = .ok (.istore_n 3, 1) := by decide +kernel
theorem dX11_stonesWith_4 : decode cX11_stonesWith 4 = .ok (.iload_n 3, 1) := by decide +kernel
theorem dX11_stonesWith_5 : decode cX11_stonesWith 5 = .ok (.aload_n 0, 1) := by decide +kernel
theorem dX11_stonesWith_6 : decode cX11_stonesWith 6 = .ok (.bipush 7, 2) := by decide +kernel
theorem dX11_stonesWith_8 : decode cX11_stonesWith 8 = .ok (.iaload, 1) := by decide +kernel
theorem dX11_stonesWith_9 : decode cX11_stonesWith 9 = .ok (.if_icmp .ge 32, 3) := by decide +kernel
theorem dX11_stonesWith_12 : decode cX11_stonesWith 12 = .ok (.iload_n 2, 1) := by decide +kernel
theorem dX11_stonesWith_13 : decode cX11_stonesWith 13 = .ok (.aload_n 0, 1) := by decide +kernel
theorem dX11_stonesWith_14 : decode cX11_stonesWith 14 = .ok (.bipush 50, 2) := by decide +kernel
theorem dX11_stonesWith_16 : decode cX11_stonesWith 16 = .ok (.bipush 6, 2) := by decide +kernel
theorem dX11_stonesWith_18 : decode cX11_stonesWith 18 = .ok (.iload_n 3, 1) := by decide +kernel
theorem dX11_stonesWith_19 : decode cX11_stonesWith 19 = .ok (.imul, 1) := by decide +kernel
theorem dX11_stonesWith_20 : decode cX11_stonesWith 20 = .ok (.iadd, 1) := by decide +kernel
theorem dX11_stonesWith_21 : decode cX11_stonesWith 21 = .ok (.iconst 3, 1) := by decide +kernel
theorem dX11_stonesWith_22 : decode cX11_stonesWith 22 = .ok (.iadd, 1) := by decide +kernel
theorem dX11_stonesWith_23 : decode cX11_stonesWith 23 = .ok (.iaload, 1) := by decide +kernel
theorem dX11_stonesWith_24 : decode cX11_stonesWith 24 = .ok (.iload_n 1, 1) := by decide +kernel
theorem dX11_stonesWith_25 : decode cX11_stonesWith 25 = .ok (.if_icmp .ne 7, 3) := by decide +kernel
theorem dX11_stonesWith_28 : decode cX11_stonesWith 28 = .ok (.iconst 1, 1) := by decide +kernel
theorem dX11_stonesWith_29 : decode cX11_stonesWith 29 = .ok (.goto 4, 3) := by decide +kernel
theorem dX11_stonesWith_32 : decode cX11_stonesWith 32 = .ok (.iconst 0, 1) := by decide +kernel
theorem dX11_stonesWith_33 : decode cX11_stonesWith 33 = .ok (.iadd, 1) := by decide +kernel
theorem dX11_stonesWith_34 : decode cX11_stonesWith 34 = .ok (.istore_n 2, 1) := by decide +kernel
theorem dX11_stonesWith_35 : decode cX11_stonesWith 35 = .ok (.iinc 3 1, 3) := by decide +kernel
theorem dX11_stonesWith_38 : decode cX11_stonesWith 38 = .ok (.goto (-34), 3) := by decide +kernel
theorem dX11_stonesWith_41 : decode cX11_stonesWith 41 = .ok (.iload_n 2, 1) := by decide +kernel
theorem dX11_stonesWith_42 : decode cX11_stonesWith 42 = .ok (.ireturn, 1) := by decide +kernel
theorem dX11_markedBy_0 : decode cX11_markedBy 0 = .ok (.iconst 0, 1) := by decide +kernel
theorem dX11_markedBy_1 : decode cX11_markedBy 1 = .ok (.istore_n 3, 1) := by decide +kernel
theorem dX11_markedBy_2 : decode cX11_markedBy 2 = .ok (.iconst 0, 1) := by decide +kernel
theorem dX11_markedBy_3 : decode cX11_markedBy 3 = .ok (.istore 4, 2) := by decide +kernel
theorem dX11_markedBy_5 : decode cX11_markedBy 5 = .ok (.iload 4, 2) := by decide +kernel
theorem dX11_markedBy_7 : decode cX11_markedBy 7 = .ok (.aload_n 0, 1) := by decide +kernel
theorem dX11_markedBy_8 : decode cX11_markedBy 8 = .ok (.bipush 7, 2) := by decide +kernel
theorem dX11_markedBy_10 : decode cX11_markedBy 10 = .ok (.iaload, 1) := by decide +kernel
theorem dX11_markedBy_11 : decode cX11_markedBy 11 = .ok (.if_icmp .ge 49, 3) := by decide +kernel
theorem dX11_markedBy_14 : decode cX11_markedBy 14 = .ok (.iload_n 3, 1) := by decide +kernel
theorem dX11_markedBy_15 : decode cX11_markedBy 15 = .ok (.aload_n 0, 1) := by decide +kernel
theorem dX11_markedBy_16 : decode cX11_markedBy 16 = .ok (.bipush 50, 2) := by decide +kernel
theorem dX11_markedBy_18 : decode cX11_markedBy 18 = .ok (.bipush 6, 2) := by decide +kernel
theorem dX11_markedBy_20 : decode cX11_markedBy 20 = .ok (.iload 4, 2) := by decide +kernel
theorem dX11_markedBy_22 : decode cX11_markedBy 22 = .ok (.imul, 1) := by decide +kernel
theorem dX11_markedBy_23 : decode cX11_markedBy 23 = .ok (.iadd, 1) := by decide +kernel
theorem dX11_markedBy_24 : decode cX11_markedBy 24 = .ok (.iconst 1, 1) := by decide +kernel
theorem dX11_markedBy_25 : decode cX11_markedBy 25 = .ok (.iadd, 1) := by decide +kernel
theorem dX11_markedBy_26 : decode cX11_markedBy 26 = .ok (.iaload, 1) := by decide +kernel
theorem dX11_markedBy_27 : decode cX11_markedBy 27 = .ok (.iload_n 1, 1) := by decide +kernel
theorem dX11_markedBy_28 : decode cX11_markedBy 28 = .ok (.if_icmp .ne 23, 3) := by decide +kernel
theorem dX11_markedBy_31 : decode cX11_markedBy 31 = .ok (.aload_n 0, 1) := by decide +kernel
theorem dX11_markedBy_32 : decode cX11_markedBy 32 = .ok (.bipush 50, 2) := by decide +kernel
theorem dX11_markedBy_34 : decode cX11_markedBy 34 = .ok (.bipush 6, 2) := by decide +kernel
theorem dX11_markedBy_36 : decode cX11_markedBy 36 = .ok (.iload 4, 2) := by decide +kernel
theorem dX11_markedBy_38 : decode cX11_markedBy 38 = .ok (.imul, 1) := by decide +kernel
theorem dX11_markedBy_39 : decode cX11_markedBy 39 = .ok (.iadd, 1) := by decide +kernel
theorem dX11_markedBy_40 : decode cX11_markedBy 40 = .ok (.iconst 3, 1) := by decide +kernel
theorem dX11_markedBy_41 : decode cX11_markedBy 41 = .ok (.iadd, 1) := by decide +kernel
theorem dX11_markedBy_42 : decode cX11_markedBy 42 = .ok (.iaload, 1) := by decide +kernel
theorem dX11_markedBy_43 : decode cX11_markedBy 43 = .ok (.iload_n 2, 1) := by decide +kernel
theorem dX11_markedBy_44 : decode cX11_markedBy 44 = .ok (.if_icmp .ne 7, 3) := by decide +kernel
theorem dX11_markedBy_47 : decode cX11_markedBy 47 = .ok (.iconst 1, 1) := by decide +kernel
theorem dX11_markedBy_48 : decode cX11_markedBy 48 = .ok (.goto 4, 3) := by decide +kernel
theorem dX11_markedBy_51 : decode cX11_markedBy 51 = .ok (.iconst 0, 1) := by decide +kernel
theorem dX11_markedBy_52 : decode cX11_markedBy 52 = .ok (.iadd, 1) := by decide +kernel
theorem dX11_markedBy_53 : decode cX11_markedBy 53 = .ok (.istore_n 3, 1) := by decide +kernel
theorem dX11_markedBy_54 : decode cX11_markedBy 54 = .ok (.iinc 4 1, 3) := by decide +kernel
theorem dX11_markedBy_57 : decode cX11_markedBy 57 = .ok (.goto (-52), 3) := by decide +kernel
theorem dX11_markedBy_60 : decode cX11_markedBy 60 = .ok (.iload_n 3, 1) := by decide +kernel
theorem dX11_markedBy_61 : decode cX11_markedBy 61 = .ok (.ireturn, 1) := by decide +kernel
theorem dX11_isComplete_0 : decode cX11_isComplete 0 = .ok (.aload_n 0, 1) := by decide +kernel
theorem dX11_isComplete_1 : decode cX11_isComplete 1 = .ok (.iload_n 1, 1) := by decide +kernel
theorem dX11_isComplete_2 : decode cX11_isComplete 2 = .ok (.iconst 3, 1) := by decide +kernel
theorem dX11_isComplete_3 : decode cX11_isComplete 3 = .ok (.invokestatic 43, 3) := by decide +kernel
theorem dX11_isComplete_6 : decode cX11_isComplete 6 = .ok (.aload_n 0, 1) := by decide +kernel
theorem dX11_isComplete_7 : decode cX11_isComplete 7 = .ok (.iload_n 1, 1) := by decide +kernel
theorem dX11_isComplete_8 : decode cX11_isComplete 8 = .ok (.invokestatic 47, 3) := by decide +kernel
theorem dX11_isComplete_11 : decode cX11_isComplete 11 = .ok (.if_icmp .lt 7, 3) := by decide +kernel
theorem dX11_isComplete_14 : decode cX11_isComplete 14 = .ok (.iconst 1, 1) := by decide +kernel
theorem dX11_isComplete_15 : decode cX11_isComplete 15 = .ok (.goto 4, 3) := by decide +kernel
theorem dX11_isComplete_18 : decode cX11_isComplete 18 = .ok (.iconst 0, 1) := by decide +kernel
theorem dX11_isComplete_19 : decode cX11_isComplete 19 = .ok (.ireturn, 1) := by decide +kernel
theorem dX11_lacks_0 : decode cX11_lacks 0 = .ok (.aload_n 0, 1) := by decide +kernel
theorem dX11_lacks_1 : decode cX11_lacks 1 = .ok (.iload_n 1, 1) := by decide +kernel
theorem dX11_lacks_2 : decode cX11_lacks 2 = .ok (.invokestatic 47, 3) := by decide +kernel
theorem dX11_lacks_5 : decode cX11_lacks 5 = .ok (.aload_n 0, 1) := by decide +kernel
theorem dX11_lacks_6 : decode cX11_lacks 6 = .ok (.iload_n 1, 1) := by decide +kernel
theorem dX11_lacks_7 : decode cX11_lacks 7 = .ok (.iconst 3, 1) := by decide +kernel
theorem dX11_lacks_8 : decode cX11_lacks 8 = .ok (.invokestatic 43, 3) := by decide +kernel
theorem dX11_lacks_11 : decode cX11_lacks 11 = .ok (.isub, 1) := by decide +kernel
theorem dX11_lacks_12 : decode cX11_lacks 12 = .ok (.aload_n 0, 1) := by decide +kernel
theorem dX11_lacks_13 : decode cX11_lacks 13 = .ok (.iload_n 1, 1) := by decide +kernel
theorem dX11_lacks_14 : decode cX11_lacks 14 = .ok (.iconst 1, 1) := by decide +kernel
theorem dX11_lacks_15 : decode cX11_lacks 15 = .ok (.invokestatic 43, 3) := by decide +kernel
theorem dX11_lacks_18 : decode cX11_lacks 18 = .ok (.isub, 1) := by decide +kernel
theorem dX11_lacks_19 : decode cX11_lacks 19 = .ok (.istore_n 2, 1) := by decide +kernel
theorem dX11_lacks_20 : decode cX11_lacks 20 = .ok (.iload_n 2, 1) := by decide +kernel
theorem dX11_lacks_21 : decode cX11_lacks 21 = .ok (.ifCond .ge 7, 3) := by decide +kernel
theorem dX11_lacks_24 : decode cX11_lacks 24 = .ok (.iconst 0, 1) := by decide +kernel
theorem dX11_lacks_25 : decode cX11_lacks 25 = .ok (.goto 4, 3) := by decide +kernel
theorem dX11_lacks_28 : decode cX11_lacks 28 = .ok (.iload_n 2, 1) := by decide +kernel
theorem dX11_lacks_29 : decode cX11_lacks 29 = .ok (.ireturn, 1) := by decide +kernel
theorem dX11_owedToAll_0 : decode cX11_owedToAll 0 = .ok (.iconst 0, 1) := by decide +kernel
theorem dX11_owedToAll_1 : decode cX11_owedToAll 1 = .ok (.istore_n 1, 1) := by decide +kernel
theorem dX11_owedToAll_2 : decode cX11_owedToAll 2 = .ok (.iconst 0, 1) := by decide +kernel
theorem dX11_owedToAll_3 : decode cX11_owedToAll 3 = .ok (.istore_n 2, 1) := by decide +kernel
theorem dX11_owedToAll_4 : decode cX11_owedToAll 4 = .ok (.iload_n 2, 1) := by decide +kernel
theorem dX11_owedToAll_5 : decode cX11_owedToAll 5 = .ok (.aload_n 0, 1) := by decide +kernel
theorem dX11_owedToAll_6 : decode cX11_owedToAll 6 = .ok (.bipush 6, 2) := by decide +kernel
theorem dX11_owedToAll_8 : decode cX11_owedToAll 8 = .ok (.iaload, 1) := by decide +kernel
theorem dX11_owedToAll_9 : decode cX11_owedToAll 9 = .ok (.if_icmp .ge 22, 3) := by decide +kernel
theorem dX11_owedToAll_12 : decode cX11_owedToAll 12 = .ok (.iload_n 1, 1) := by decide +kernel
theorem dX11_owedToAll_13 : decode cX11_owedToAll 13 = .ok (.aload_n 0, 1) := by decide +kernel
theorem dX11_owedToAll_14 : decode cX11_owedToAll 14 = .ok (.bipush 26, 2) := by decide +kernel
theorem dX11_owedToAll_16 : decode cX11_owedToAll 16 = .ok (.iconst 4, 1) := by decide +kernel
theorem dX11_owedToAll_17 : decode cX11_owedToAll 17 = .ok (.iload_n 2, 1) := by decide +kernel
theorem dX11_owedToAll_18 : decode cX11_owedToAll 18 = .ok (.imul, 1) := by decide +kernel
theorem dX11_owedToAll_19 : decode cX11_owedToAll 19 = .ok (.iadd, 1) := by decide +kernel
theorem dX11_owedToAll_20 : decode cX11_owedToAll 20 = .ok (.iconst 3, 1) := by decide +kernel
theorem dX11_owedToAll_21 : decode cX11_owedToAll 21 = .ok (.iadd, 1) := by decide +kernel
theorem dX11_owedToAll_22 : decode cX11_owedToAll 22 = .ok (.iaload, 1) := by decide +kernel
theorem dX11_owedToAll_23 : decode cX11_owedToAll 23 = .ok (.iadd, 1) := by decide +kernel
theorem dX11_owedToAll_24 : decode cX11_owedToAll 24 = .ok (.istore_n 1, 1) := by decide +kernel
theorem dX11_owedToAll_25 : decode cX11_owedToAll 25 = .ok (.iinc 2 1, 3) := by decide +kernel
theorem dX11_owedToAll_28 : decode cX11_owedToAll 28 = .ok (.goto (-24), 3) := by decide +kernel
theorem dX11_owedToAll_31 : decode cX11_owedToAll 31 = .ok (.iload_n 1, 1) := by decide +kernel
theorem dX11_owedToAll_32 : decode cX11_owedToAll 32 = .ok (.ireturn, 1) := by decide +kernel
theorem dX11_canCut_0 : decode cX11_canCut 0 = .ok (.aload_n 0, 1) := by decide +kernel
theorem dX11_canCut_1 : decode cX11_canCut 1 = .ok (.bipush 26, 2) := by decide +kernel
theorem dX11_canCut_3 : decode cX11_canCut 3 = .ok (.iconst 4, 1) := by decide +kernel
theorem dX11_canCut_4 : decode cX11_canCut 4 = .ok (.iload_n 1, 1) := by decide +kernel
theorem dX11_canCut_5 : decode cX11_canCut 5 = .ok (.imul, 1) := by decide +kernel
theorem dX11_canCut_6 : decode cX11_canCut 6 = .ok (.iadd, 1) := by decide +kernel
theorem dX11_canCut_7 : decode cX11_canCut 7 = .ok (.iconst 2, 1) := by decide +kernel
theorem dX11_canCut_8 : decode cX11_canCut 8 = .ok (.iadd, 1) := by decide +kernel
theorem dX11_canCut_9 : decode cX11_canCut 9 = .ok (.iaload, 1) := by decide +kernel
theorem dX11_canCut_10 : decode cX11_canCut 10 = .ok (.aload_n 0, 1) := by decide +kernel
theorem dX11_canCut_11 : decode cX11_canCut 11 = .ok (.iload_n 2, 1) := by decide +kernel
theorem dX11_canCut_12 : decode cX11_canCut 12 = .ok (.invokestatic 51, 3) := by decide +kernel
theorem dX11_canCut_15 : decode cX11_canCut 15 = .ok (.if_icmp .lt 16, 3) := by decide +kernel
theorem dX11_canCut_18 : decode cX11_canCut 18 = .ok (.aload_n 0, 1) := by decide +kernel
theorem dX11_canCut_19 : decode cX11_canCut 19 = .ok (.bipush 7, 2) := by decide +kernel
theorem dX11_canCut_21 : decode cX11_canCut 21 = .ok (.iaload, 1) := by decide +kernel
theorem dX11_canCut_22 : decode cX11_canCut 22 = .ok (.bipush 24, 2) := by decide +kernel
theorem dX11_canCut_24 : decode cX11_canCut 24 = .ok (.if_icmp .ge 7, 3) := by decide +kernel
theorem dX11_canCut_27 : decode cX11_canCut 27 = .ok (.iconst 1, 1) := by decide +kernel
theorem dX11_canCut_28 : decode cX11_canCut 28 = .ok (.goto 4, 3) := by decide +kernel
theorem dX11_canCut_31 : decode cX11_canCut 31 = .ok (.iconst 0, 1) := by decide +kernel
theorem dX11_canCut_32 : decode cX11_canCut 32 = .ok (.ireturn, 1) := by decide +kernel
theorem dX11_layStone_0 : decode cX11_layStone 0 = .ok (.bipush 50, 2) := by decide +kernel
theorem dX11_layStone_2 : decode cX11_layStone 2 = .ok (.bipush 6, 2) := by decide +kernel
theorem dX11_layStone_4 : decode cX11_layStone 4 = .ok (.aload_n 0, 1) := by decide +kernel
theorem dX11_layStone_5 : decode cX11_layStone 5 = .ok (.bipush 7, 2) := by decide +kernel
theorem dX11_layStone_7 : decode cX11_layStone 7 = .ok (.iaload, 1) := by decide +kernel
theorem dX11_layStone_8 : decode cX11_layStone 8 = .ok (.imul, 1) := by decide +kernel
theorem dX11_layStone_9 : decode cX11_layStone 9 = .ok (.iadd, 1) := by decide +kernel
theorem dX11_layStone_10 : decode cX11_layStone 10 = .ok (.istore 4, 2) := by decide +kernel
theorem dX11_layStone_12 : decode cX11_layStone 12 = .ok (.aload_n 0, 1) := by decide +kernel
theorem dX11_layStone_13 : decode cX11_layStone 13 = .ok (.iload 4, 2) := by decide +kernel
theorem dX11_layStone_15 : decode cX11_layStone 15 = .ok (.iload_n 2, 1) := by decide +kernel
theorem dX11_layStone_16 : decode cX11_layStone 16 = .ok (.iastore, 1) := by decide +kernel
theorem dX11_layStone_17 : decode cX11_layStone 17 = .ok (.aload_n 0, 1) := by decide +kernel
theorem dX11_layStone_18 : decode cX11_layStone 18 = .ok (.iload 4, 2) := by decide +kernel
theorem dX11_layStone_20 : decode cX11_layStone 20 = .ok (.iconst 1, 1) := by decide +kernel
theorem dX11_layStone_21 : decode cX11_layStone 21 = .ok (.iadd, 1) := by decide +kernel
theorem dX11_layStone_22 : decode cX11_layStone 22 = .ok (.iload_n 1, 1) := by decide +kernel
theorem dX11_layStone_23 : decode cX11_layStone 23 = .ok (.iastore, 1) := by decide +kernel
theorem dX11_layStone_24 : decode cX11_layStone 24 = .ok (.aload_n 0, 1) := by decide +kernel
theorem dX11_layStone_25 : decode cX11_layStone 25 = .ok (.iload 4, 2) := by decide +kernel
theorem dX11_layStone_27 : decode cX11_layStone 27 = .ok (.iconst 2, 1) := by decide +kernel
theorem dX11_layStone_28 : decode cX11_layStone 28 = .ok (.iadd, 1) := by decide +kernel
theorem dX11_layStone_29 : decode cX11_layStone 29 = .ok (.iload_n 3, 1) := by decide +kernel
theorem dX11_layStone_30 : decode cX11_layStone 30 = .ok (.iastore, 1) := by decide +kernel
theorem dX11_layStone_31 : decode cX11_layStone 31 = .ok (.aload_n 0, 1) := by decide +kernel
theorem dX11_layStone_32 : decode cX11_layStone 32 = .ok (.iload 4, 2) := by decide +kernel
theorem dX11_layStone_34 : decode cX11_layStone 34 = .ok (.iconst 3, 1) := by decide +kernel
theorem dX11_layStone_35 : decode cX11_layStone 35 = .ok (.iadd, 1) := by decide +kernel
theorem dX11_layStone_36 : decode cX11_layStone 36 = .ok (.iconst 0, 1) := by decide +kernel
theorem dX11_layStone_37 : decode cX11_layStone 37 = .ok (.iastore, 1) := by decide +kernel
theorem dX11_layStone_38 : decode cX11_layStone 38 = .ok (.aload_n 0, 1) := by decide +kernel
theorem dX11_layStone_39 : decode cX11_layStone 39 = .ok (.iload 4, 2) := by decide +kernel
theorem dX11_layStone_41 : decode cX11_layStone 41 = .ok (.iconst 4, 1) := by decide +kernel
theorem dX11_layStone_42 : decode cX11_layStone 42 = .ok (.iadd, 1) := by decide +kernel
theorem dX11_layStone_43 : decode cX11_layStone 43 = .ok (.iconst 0, 1) := by decide +kernel
theorem dX11_layStone_44 : decode cX11_layStone 44 = .ok (.iastore, 1) := by decide +kernel
theorem dX11_layStone_45 : decode cX11_layStone 45 = .ok (.aload_n 0, 1) := by decide +kernel
theorem dX11_layStone_46 : decode cX11_layStone 46 = .ok (.iload 4, 2) := by decide +kernel
theorem dX11_layStone_48 : decode cX11_layStone 48 = .ok (.iconst 5, 1) := by decide +kernel
theorem dX11_layStone_49 : decode cX11_layStone 49 = .ok (.iadd, 1) := by decide +kernel
theorem dX11_layStone_50 : decode cX11_layStone 50 = .ok (.iload_n 1, 1) := by decide +kernel
theorem dX11_layStone_51 : decode cX11_layStone 51 = .ok (.iastore, 1) := by decide +kernel
theorem dX11_layStone_52 : decode cX11_layStone 52 = .ok (.aload_n 0, 1) := by decide +kernel
theorem dX11_layStone_53 : decode cX11_layStone 53 = .ok (.bipush 7, 2) := by decide +kernel
theorem dX11_layStone_55 : decode cX11_layStone 55 = .ok (.dup2, 1) := by decide +kernel
theorem dX11_layStone_56 : decode cX11_layStone 56 = .ok (.iaload, 1) := by decide +kernel
theorem dX11_layStone_57 : decode cX11_layStone 57 = .ok (.iconst 1, 1) := by decide +kernel
theorem dX11_layStone_58 : decode cX11_layStone 58 = .ok (.iadd, 1) := by decide +kernel
theorem dX11_layStone_59 : decode cX11_layStone 59 = .ok (.iastore, 1) := by decide +kernel
theorem dX11_layStone_60 : decode cX11_layStone 60 = .ok (.aload_n 0, 1) := by decide +kernel
theorem dX11_layStone_61 : decode cX11_layStone 61 = .ok (.bipush 7, 2) := by decide +kernel
theorem dX11_layStone_63 : decode cX11_layStone 63 = .ok (.iaload, 1) := by decide +kernel
theorem dX11_layStone_64 : decode cX11_layStone 64 = .ok (.iconst 1, 1) := by decide +kernel
theorem dX11_layStone_65 : decode cX11_layStone 65 = .ok (.isub, 1) := by decide +kernel
theorem dX11_layStone_66 : decode cX11_layStone 66 = .ok (.ireturn, 1) := by decide +kernel
theorem dX11_cutOn_0 : decode cX11_cutOn 0 = .ok (.aload_n 0, 1) := by decide +kernel
theorem dX11_cutOn_1 : decode cX11_cutOn 1 = .ok (.bipush 26, 2) := by decide +kernel
theorem dX11_cutOn_3 : decode cX11_cutOn 3 = .ok (.iconst 4, 1) := by decide +kernel
theorem dX11_cutOn_4 : decode cX11_cutOn 4 = .ok (.iload_n 1, 1) := by decide +kernel
theorem dX11_cutOn_5 : decode cX11_cutOn 5 = .ok (.imul, 1) := by decide +kernel
theorem dX11_cutOn_6 : decode cX11_cutOn 6 = .ok (.iadd, 1) := by decide +kernel
theorem dX11_cutOn_7 : decode cX11_cutOn 7 = .ok (.iconst 2, 1) := by decide +kernel
theorem dX11_cutOn_8 : decode cX11_cutOn 8 = .ok (.iadd, 1) := by decide +kernel
theorem dX11_cutOn_9 : decode cX11_cutOn 9 = .ok (.dup2, 1) := by decide +kernel
theorem dX11_cutOn_10 : decode cX11_cutOn 10 = .ok (.iaload, 1) := by decide +kernel
theorem dX11_cutOn_11 : decode cX11_cutOn 11 = .ok (.aload_n 0, 1) := by decide +kernel
theorem dX11_cutOn_12 : decode cX11_cutOn 12 = .ok (.iload_n 2, 1) := by decide +kernel
theorem dX11_cutOn_13 : decode cX11_cutOn 13 = .ok (.invokestatic 51, 3) := by decide +kernel
theorem dX11_cutOn_16 : decode cX11_cutOn 16 = .ok (.isub, 1) := by decide +kernel
theorem dX11_cutOn_17 : decode cX11_cutOn 17 = .ok (.iastore, 1) := by decide +kernel
theorem dX11_cutOn_18 : decode cX11_cutOn 18 = .ok (.aload_n 0, 1) := by decide +kernel
theorem dX11_cutOn_19 : decode cX11_cutOn 19 = .ok (.iload_n 1, 1) := by decide +kernel
theorem dX11_cutOn_20 : decode cX11_cutOn 20 = .ok (.iload_n 2, 1) := by decide +kernel
theorem dX11_cutOn_21 : decode cX11_cutOn 21 = .ok (.iload_n 3, 1) := by decide +kernel
theorem dX11_cutOn_22 : decode cX11_cutOn 22 = .ok (.invokestatic 54, 3) := by decide +kernel
theorem dX11_cutOn_25 : decode cX11_cutOn 25 = .ok (.ireturn, 1) := by decide +kernel
theorem dX11_priceOf_0 : decode cX11_priceOf 0 = .ok (.bipush 50, 2) := by decide +kernel
theorem dX11_priceOf_2 : decode cX11_priceOf 2 = .ok (.bipush 6, 2) := by decide +kernel
theorem dX11_priceOf_4 : decode cX11_priceOf 4 = .ok (.iload_n 1, 1) := by decide +kernel
theorem dX11_priceOf_5 : decode cX11_priceOf 5 = .ok (.imul, 1) := by decide +kernel
theorem dX11_priceOf_6 : decode cX11_priceOf 6 = .ok (.iadd, 1) := by decide +kernel
theorem dX11_priceOf_7 : decode cX11_priceOf 7 = .ok (.istore_n 2, 1) := by decide +kernel
theorem dX11_priceOf_8 : decode cX11_priceOf 8 = .ok (.aload_n 0, 1) := by decide +kernel
theorem dX11_priceOf_9 : decode cX11_priceOf 9 = .ok (.aload_n 0, 1) := by decide +kernel
theorem dX11_priceOf_10 : decode cX11_priceOf 10 = .ok (.iload_n 2, 1) := by decide +kernel
theorem dX11_priceOf_11 : decode cX11_priceOf 11 = .ok (.iaload, 1) := by decide +kernel
theorem dX11_priceOf_12 : decode cX11_priceOf 12 = .ok (.invokestatic 51, 3) := by decide +kernel
theorem dX11_priceOf_15 : decode cX11_priceOf 15 = .ok (.aload_n 0, 1) := by decide +kernel
theorem dX11_priceOf_16 : decode cX11_priceOf 16 = .ok (.bipush 26, 2) := by decide +kernel
theorem dX11_priceOf_18 : decode cX11_priceOf 18 = .ok (.iconst 4, 1) := by decide +kernel
theorem dX11_priceOf_19 : decode cX11_priceOf 19 = .ok (.aload_n 0, 1) := by decide +kernel
theorem dX11_priceOf_20 : decode cX11_priceOf 20 = .ok (.iload_n 2, 1) := by decide +kernel
theorem dX11_priceOf_21 : decode cX11_priceOf 21 = .ok (.iconst 1, 1) := by decide +kernel
theorem dX11_priceOf_22 : decode cX11_priceOf 22 = .ok (.iadd, 1) := by decide +kernel
theorem dX11_priceOf_23 : decode cX11_priceOf 23 = .ok (.iaload, 1) := by decide +kernel
theorem dX11_priceOf_24 : decode cX11_priceOf 24 = .ok (.imul, 1) := by decide +kernel
theorem dX11_priceOf_25 : decode cX11_priceOf 25 = .ok (.iadd, 1) := by decide +kernel
theorem dX11_priceOf_26 : decode cX11_priceOf 26 = .ok (.iaload, 1) := by decide +kernel
theorem dX11_priceOf_27 : decode cX11_priceOf 27 = .ok (.imul, 1) := by decide +kernel
theorem dX11_priceOf_28 : decode cX11_priceOf 28 = .ok (.istore_n 3, 1) := by decide +kernel
theorem dX11_priceOf_29 : decode cX11_priceOf 29 = .ok (.aload_n 0, 1) := by decide +kernel
theorem dX11_priceOf_30 : decode cX11_priceOf 30 = .ok (.iload_n 2, 1) := by decide +kernel
theorem dX11_priceOf_31 : decode cX11_priceOf 31 = .ok (.iconst 4, 1) := by decide +kernel
theorem dX11_priceOf_32 : decode cX11_priceOf 32 = .ok (.iadd, 1) := by decide +kernel
theorem dX11_priceOf_33 : decode cX11_priceOf 33 = .ok (.iaload, 1) := by decide +kernel
theorem dX11_priceOf_34 : decode cX11_priceOf 34 = .ok (.ifCond .le 9, 3) := by decide +kernel
theorem dX11_priceOf_37 : decode cX11_priceOf 37 = .ok (.iload_n 3, 1) := by decide +kernel
theorem dX11_priceOf_38 : decode cX11_priceOf 38 = .ok (.iconst 2, 1) := by decide +kernel
theorem dX11_priceOf_39 : decode cX11_priceOf 39 = .ok (.idiv, 1) := by decide +kernel
theorem dX11_priceOf_40 : decode cX11_priceOf 40 = .ok (.goto 4, 3) := by decide +kernel
theorem dX11_priceOf_43 : decode cX11_priceOf 43 = .ok (.iload_n 3, 1) := by decide +kernel
theorem dX11_priceOf_44 : decode cX11_priceOf 44 = .ok (.ireturn, 1) := by decide +kernel
theorem dX11_inspectOn_0 : decode cX11_inspectOn 0 = .ok (.bipush 50, 2) := by decide +kernel
theorem dX11_inspectOn_2 : decode cX11_inspectOn 2 = .ok (.bipush 6, 2) := by decide +kernel
theorem dX11_inspectOn_4 : decode cX11_inspectOn 4 = .ok (.iload_n 1, 1) := by decide +kernel
theorem dX11_inspectOn_5 : decode cX11_inspectOn 5 = .ok (.imul, 1) := by decide +kernel
theorem dX11_inspectOn_6 : decode cX11_inspectOn 6 = .ok (.iadd, 1) := by decide +kernel
theorem dX11_inspectOn_7 : decode cX11_inspectOn 7 = .ok (.istore_n 2, 1) := by decide +kernel
theorem dX11_inspectOn_8 : decode cX11_inspectOn 8 = .ok (.aload_n 0, 1) := by decide +kernel
theorem dX11_inspectOn_9 : decode cX11_inspectOn 9 = .ok (.iload_n 2, 1) := by decide +kernel
theorem dX11_inspectOn_10 : decode cX11_inspectOn 10 = .ok (.iconst 2, 1) := by decide +kernel
theorem dX11_inspectOn_11 : decode cX11_inspectOn 11 = .ok (.iadd, 1) := by decide +kernel
theorem dX11_inspectOn_12 : decode cX11_inspectOn 12 = .ok (.iaload, 1) := by decide +kernel
theorem dX11_inspectOn_13 : decode cX11_inspectOn 13 = .ok (.aload_n 0, 1) := by decide +kernel
theorem dX11_inspectOn_14 : decode cX11_inspectOn 14 = .ok (.iconst 0, 1) := by decide +kernel
theorem dX11_inspectOn_15 : decode cX11_inspectOn 15 = .ok (.iaload, 1) := by decide +kernel
theorem dX11_inspectOn_16 : decode cX11_inspectOn 16 = .ok (.if_icmp .le 12, 3) := by decide +kernel
theorem dX11_inspectOn_19 : decode cX11_inspectOn 19 = .ok (.aload_n 0, 1) := by decide +kernel
theorem dX11_inspectOn_20 : decode cX11_inspectOn 20 = .ok (.iload_n 2, 1) := by decide +kernel
theorem dX11_inspectOn_21 : decode cX11_inspectOn 21 = .ok (.iconst 3, 1) := by decide +kernel
theorem dX11_inspectOn_22 : decode cX11_inspectOn 22 = .ok (.iadd, 1) := by decide +kernel
theorem dX11_inspectOn_23 : decode cX11_inspectOn 23 = .ok (.iconst 2, 1) := by decide +kernel
theorem dX11_inspectOn_24 : decode cX11_inspectOn 24 = .ok (.iastore, 1) := by decide +kernel
theorem dX11_inspectOn_25 : decode cX11_inspectOn 25 = .ok (.bipush (-9), 2) := by decide +kernel
theorem dX11_inspectOn_27 : decode cX11_inspectOn 27 = .ok (.ireturn, 1) := by decide +kernel
theorem dX11_inspectOn_28 : decode cX11_inspectOn 28 = .ok (.aload_n 0, 1) := by decide +kernel
theorem dX11_inspectOn_29 : decode cX11_inspectOn 29 = .ok (.iload_n 1, 1) := by decide +kernel
theorem dX11_inspectOn_30 : decode cX11_inspectOn 30 = .ok (.invokestatic 58, 3) := by decide +kernel
theorem dX11_inspectOn_33 : decode cX11_inspectOn 33 = .ok (.istore_n 3, 1) := by decide +kernel
theorem dX11_inspectOn_34 : decode cX11_inspectOn 34 = .ok (.aload_n 0, 1) := by decide +kernel
theorem dX11_inspectOn_35 : decode cX11_inspectOn 35 = .ok (.iload_n 2, 1) := by decide +kernel
theorem dX11_inspectOn_36 : decode cX11_inspectOn 36 = .ok (.iconst 3, 1) := by decide +kernel
theorem dX11_inspectOn_37 : decode cX11_inspectOn 37 = .ok (.iadd, 1) := by decide +kernel
theorem dX11_inspectOn_38 : decode cX11_inspectOn 38 = .ok (.iconst 1, 1) := by decide +kernel
theorem dX11_inspectOn_39 : decode cX11_inspectOn 39 = .ok (.iastore, 1) := by decide +kernel
theorem dX11_inspectOn_40 : decode cX11_inspectOn 40 = .ok (.aload_n 0, 1) := by decide +kernel
theorem dX11_inspectOn_41 : decode cX11_inspectOn 41 = .ok (.bipush 26, 2) := by decide +kernel
theorem dX11_inspectOn_43 : decode cX11_inspectOn 43 = .ok (.iconst 4, 1) := by decide +kernel
theorem dX11_inspectOn_44 : decode cX11_inspectOn 44 = .ok (.aload_n 0, 1) := by decide +kernel
theorem dX11_inspectOn_45 : decode cX11_inspectOn 45 = .ok (.iload_n 2, 1) := by decide +kernel
theorem dX11_inspectOn_46 : decode cX11_inspectOn 46 = .ok (.iconst 1, 1) := by decide +kernel
theorem dX11_inspectOn_47 : decode cX11_inspectOn 47 = .ok (.iadd, 1) := by decide +kernel
theorem dX11_inspectOn_48 : decode cX11_inspectOn 48 = .ok (.iaload, 1) := by decide +kernel
theorem dX11_inspectOn_49 : decode cX11_inspectOn 49 = .ok (.imul, 1) := by decide +kernel
theorem dX11_inspectOn_50 : decode cX11_inspectOn 50 = .ok (.iadd, 1) := by decide +kernel
theorem dX11_inspectOn_51 : decode cX11_inspectOn 51 = .ok (.iconst 3, 1) := by decide +kernel
theorem dX11_inspectOn_52 : decode cX11_inspectOn 52 = .ok (.iadd, 1) := by decide +kernel
theorem dX11_inspectOn_53 : decode cX11_inspectOn 53 = .ok (.dup2, 1) := by decide +kernel
theorem dX11_inspectOn_54 : decode cX11_inspectOn 54 = .ok (.iaload, 1) := by decide +kernel
theorem dX11_inspectOn_55 : decode cX11_inspectOn 55 = .ok (.iload_n 3, 1) := by decide +kernel
theorem dX11_inspectOn_56 : decode cX11_inspectOn 56 = .ok (.iadd, 1) := by decide +kernel
theorem dX11_inspectOn_57 : decode cX11_inspectOn 57 = .ok (.iastore, 1) := by decide +kernel
theorem dX11_inspectOn_58 : decode cX11_inspectOn 58 = .ok (.iload_n 3, 1) := by decide +kernel
theorem dX11_inspectOn_59 : decode cX11_inspectOn 59 = .ok (.ireturn, 1) := by decide +kernel
theorem dX11_canRecut_0 : decode cX11_canRecut 0 = .ok (.bipush 50, 2) := by decide +kernel
theorem dX11_canRecut_2 : decode cX11_canRecut 2 = .ok (.bipush 6, 2) := by decide +kernel
theorem dX11_canRecut_4 : decode cX11_canRecut 4 = .ok (.iload_n 2, 1) := by decide +kernel
theorem dX11_canRecut_5 : decode cX11_canRecut 5 = .ok (.imul, 1) := by decide +kernel
theorem dX11_canRecut_6 : decode cX11_canRecut 6 = .ok (.iadd, 1) := by decide +kernel
theorem dX11_canRecut_7 : decode cX11_canRecut 7 = .ok (.istore 4, 2) := by decide +kernel
theorem dX11_canRecut_9 : decode cX11_canRecut 9 = .ok (.aload_n 0, 1) := by decide +kernel
theorem dX11_canRecut_10 : decode cX11_canRecut 10 = .ok (.iload 4, 2) := by decide +kernel
theorem dX11_canRecut_12 : decode cX11_canRecut 12 = .ok (.iconst 3, 1) := by decide +kernel
theorem dX11_canRecut_13 : decode cX11_canRecut 13 = .ok (.iadd, 1) := by decide +kernel
theorem dX11_canRecut_14 : decode cX11_canRecut 14 = .ok (.iaload, 1) := by decide +kernel
theorem dX11_canRecut_15 : decode cX11_canRecut 15 = .ok (.iconst 2, 1) := by decide +kernel
theorem dX11_canRecut_16 : decode cX11_canRecut 16 = .ok (.if_icmp .ne 45, 3) := by decide +kernel
theorem dX11_canRecut_19 : decode cX11_canRecut 19 = .ok (.aload_n 0, 1) := by decide +kernel
theorem dX11_canRecut_20 : decode cX11_canRecut 20 = .ok (.iload_n 3, 1) := by decide +kernel
theorem dX11_canRecut_21 : decode cX11_canRecut 21 = .ok (.invokestatic 61, 3) := by decide +kernel
theorem dX11_canRecut_24 : decode cX11_canRecut 24 = .ok (.aload_n 0, 1) := by decide +kernel
theorem dX11_canRecut_25 : decode cX11_canRecut 25 = .ok (.aload_n 0, 1) := by decide +kernel
theorem dX11_canRecut_26 : decode cX11_canRecut 26 = .ok (.iload 4, 2) := by decide +kernel
theorem dX11_canRecut_28 : decode cX11_canRecut 28 = .ok (.iaload, 1) := by decide +kernel
theorem dX11_canRecut_29 : decode cX11_canRecut 29 = .ok (.invokestatic 61, 3) := by decide +kernel
theorem dX11_canRecut_32 : decode cX11_canRecut 32 = .ok (.if_icmp .ge 29, 3) := by decide +kernel
theorem dX11_canRecut_35 : decode cX11_canRecut 35 = .ok (.aload_n 0, 1) := by decide +kernel
theorem dX11_canRecut_36 : decode cX11_canRecut 36 = .ok (.bipush 26, 2) := by decide +kernel
theorem dX11_canRecut_38 : decode cX11_canRecut 38 = .ok (.iconst 4, 1) := by decide +kernel
theorem dX11_canRecut_39 : decode cX11_canRecut 39 = .ok (.iload_n 1, 1) := by decide +kernel
theorem dX11_canRecut_40 : decode cX11_canRecut 40 = .ok (.imul, 1) := by decide +kernel
theorem dX11_canRecut_41 : decode cX11_canRecut 41 = .ok (.iadd, 1) := by decide +kernel
theorem dX11_canRecut_42 : decode cX11_canRecut 42 = .ok (.iconst 2, 1) := by decide +kernel
theorem dX11_canRecut_43 : decode cX11_canRecut 43 = .ok (.iadd, 1) := by decide +kernel
theorem dX11_canRecut_44 : decode cX11_canRecut 44 = .ok (.iaload, 1) := by decide +kernel
theorem dX11_canRecut_45 : decode cX11_canRecut 45 = .ok (.aload_n 0, 1) := by decide +kernel
theorem dX11_canRecut_46 : decode cX11_canRecut 46 = .ok (.iload_n 3, 1) := by decide +kernel
theorem dX11_canRecut_47 : decode cX11_canRecut 47 = .ok (.invokestatic 51, 3) := by decide +kernel
theorem dX11_canRecut_50 : decode cX11_canRecut 50 = .ok (.iconst 1, 1) := by decide +kernel
theorem dX11_canRecut_51 : decode cX11_canRecut 51 = .ok (.iadd, 1) := by decide +kernel
theorem dX11_canRecut_52 : decode cX11_canRecut 52 = .ok (.iconst 2, 1) := by decide +kernel
theorem dX11_canRecut_53 : decode cX11_canRecut 53 = .ok (.idiv, 1) := by decide +kernel
theorem dX11_canRecut_54 : decode cX11_canRecut 54 = .ok (.if_icmp .lt 7, 3) := by decide +kernel
theorem dX11_canRecut_57 : decode cX11_canRecut 57 = .ok (.iconst 1, 1) := by decide +kernel
theorem dX11_canRecut_58 : decode cX11_canRecut 58 = .ok (.goto 4, 3) := by decide +kernel
theorem dX11_canRecut_61 : decode cX11_canRecut 61 = .ok (.iconst 0, 1) := by decide +kernel
theorem dX11_canRecut_62 : decode cX11_canRecut 62 = .ok (.ireturn, 1) := by decide +kernel
theorem dX11_recutOn_0 : decode cX11_recutOn 0 = .ok (.bipush 50, 2) := by decide +kernel
theorem dX11_recutOn_2 : decode cX11_recutOn 2 = .ok (.bipush 6, 2) := by decide +kernel
theorem dX11_recutOn_4 : decode cX11_recutOn 4 = .ok (.iload_n 2, 1) := by decide +kernel
theorem dX11_recutOn_5 : decode cX11_recutOn 5 = .ok (.imul, 1) := by decide +kernel
theorem dX11_recutOn_6 : decode cX11_recutOn 6 = .ok (.iadd, 1) := by decide +kernel
theorem dX11_recutOn_7 : decode cX11_recutOn 7 = .ok (.istore 4, 2) := by decide +kernel
theorem dX11_recutOn_9 : decode cX11_recutOn 9 = .ok (.aload_n 0, 1) := by decide +kernel
theorem dX11_recutOn_10 : decode cX11_recutOn 10 = .ok (.iload 4, 2) := by decide +kernel
theorem dX11_recutOn_12 : decode cX11_recutOn 12 = .ok (.iconst 2, 1) := by decide +kernel
theorem dX11_recutOn_13 : decode cX11_recutOn 13 = .ok (.iadd, 1) := by decide +kernel
theorem dX11_recutOn_14 : decode cX11_recutOn 14 = .ok (.iaload, 1) := by decide +kernel
theorem dX11_recutOn_15 : decode cX11_recutOn 15 = .ok (.aload_n 0, 1) := by decide +kernel
theorem dX11_recutOn_16 : decode cX11_recutOn 16 = .ok (.aload_n 0, 1) := by decide +kernel
theorem dX11_recutOn_17 : decode cX11_recutOn 17 = .ok (.iload 4, 2) := by decide +kernel
theorem dX11_recutOn_19 : decode cX11_recutOn 19 = .ok (.iaload, 1) := by decide +kernel
theorem dX11_recutOn_20 : decode cX11_recutOn 20 = .ok (.invokestatic 61, 3) := by decide +kernel
theorem dX11_recutOn_23 : decode cX11_recutOn 23 = .ok (.isub, 1) := by decide +kernel
theorem dX11_recutOn_24 : decode cX11_recutOn 24 = .ok (.aload_n 0, 1) := by decide +kernel
theorem dX11_recutOn_25 : decode cX11_recutOn 25 = .ok (.iload_n 3, 1) := by decide +kernel
theorem dX11_recutOn_26 : decode cX11_recutOn 26 = .ok (.invokestatic 61, 3) := by decide +kernel
theorem dX11_recutOn_29 : decode cX11_recutOn 29 = .ok (.iadd, 1) := by decide +kernel
theorem dX11_recutOn_30 : decode cX11_recutOn 30 = .ok (.istore 5, 2) := by decide +kernel
theorem dX11_recutOn_32 : decode cX11_recutOn 32 = .ok (.aload_n 0, 1) := by decide +kernel
theorem dX11_recutOn_33 : decode cX11_recutOn 33 = .ok (.bipush 26, 2) := by decide +kernel
theorem dX11_recutOn_35 : decode cX11_recutOn 35 = .ok (.iconst 4, 1) := by decide +kernel
theorem dX11_recutOn_36 : decode cX11_recutOn 36 = .ok (.iload_n 1, 1) := by decide +kernel
theorem dX11_recutOn_37 : decode cX11_recutOn 37 = .ok (.imul, 1) := by decide +kernel
theorem dX11_recutOn_38 : decode cX11_recutOn 38 = .ok (.iadd, 1) := by decide +kernel
theorem dX11_recutOn_39 : decode cX11_recutOn 39 = .ok (.iconst 2, 1) := by decide +kernel
theorem dX11_recutOn_40 : decode cX11_recutOn 40 = .ok (.iadd, 1) := by decide +kernel
theorem dX11_recutOn_41 : decode cX11_recutOn 41 = .ok (.dup2, 1) := by decide +kernel
theorem dX11_recutOn_42 : decode cX11_recutOn 42 = .ok (.iaload, 1) := by decide +kernel
theorem dX11_recutOn_43 : decode cX11_recutOn 43 = .ok (.aload_n 0, 1) := by decide +kernel
theorem dX11_recutOn_44 : decode cX11_recutOn 44 = .ok (.iload_n 3, 1) := by decide +kernel
theorem dX11_recutOn_45 : decode cX11_recutOn 45 = .ok (.invokestatic 51, 3) := by decide +kernel
theorem dX11_recutOn_48 : decode cX11_recutOn 48 = .ok (.iconst 1, 1) := by decide +kernel
theorem dX11_recutOn_49 : decode cX11_recutOn 49 = .ok (.iadd, 1) := by decide +kernel
theorem dX11_recutOn_50 : decode cX11_recutOn 50 = .ok (.iconst 2, 1) := by decide +kernel
theorem dX11_recutOn_51 : decode cX11_recutOn 51 = .ok (.idiv, 1) := by decide +kernel
theorem dX11_recutOn_52 : decode cX11_recutOn 52 = .ok (.isub, 1) := by decide +kernel
theorem dX11_recutOn_53 : decode cX11_recutOn 53 = .ok (.iastore, 1) := by decide +kernel
theorem dX11_recutOn_54 : decode cX11_recutOn 54 = .ok (.aload_n 0, 1) := by decide +kernel
theorem dX11_recutOn_55 : decode cX11_recutOn 55 = .ok (.iload 4, 2) := by decide +kernel
theorem dX11_recutOn_57 : decode cX11_recutOn 57 = .ok (.iload_n 3, 1) := by decide +kernel
theorem dX11_recutOn_58 : decode cX11_recutOn 58 = .ok (.iastore, 1) := by decide +kernel
theorem dX11_recutOn_59 : decode cX11_recutOn 59 = .ok (.aload_n 0, 1) := by decide +kernel
theorem dX11_recutOn_60 : decode cX11_recutOn 60 = .ok (.iload 4, 2) := by decide +kernel
theorem dX11_recutOn_62 : decode cX11_recutOn 62 = .ok (.iconst 1, 1) := by decide +kernel
theorem dX11_recutOn_63 : decode cX11_recutOn 63 = .ok (.iadd, 1) := by decide +kernel
theorem dX11_recutOn_64 : decode cX11_recutOn 64 = .ok (.iload_n 1, 1) := by decide +kernel
theorem dX11_recutOn_65 : decode cX11_recutOn 65 = .ok (.iastore, 1) := by decide +kernel
theorem dX11_recutOn_66 : decode cX11_recutOn 66 = .ok (.aload_n 0, 1) := by decide +kernel
theorem dX11_recutOn_67 : decode cX11_recutOn 67 = .ok (.iload 4, 2) := by decide +kernel
theorem dX11_recutOn_69 : decode cX11_recutOn 69 = .ok (.iconst 2, 1) := by decide +kernel
theorem dX11_recutOn_70 : decode cX11_recutOn 70 = .ok (.iadd, 1) := by decide +kernel
theorem dX11_recutOn_71 : decode cX11_recutOn 71 = .ok (.iload 5, 2) := by decide +kernel
theorem dX11_recutOn_73 : decode cX11_recutOn 73 = .ok (.ifCond .ge 7, 3) := by decide +kernel
theorem dX11_recutOn_76 : decode cX11_recutOn 76 = .ok (.iconst 0, 1) := by decide +kernel
theorem dX11_recutOn_77 : decode cX11_recutOn 77 = .ok (.goto 5, 3) := by decide +kernel
theorem dX11_recutOn_80 : decode cX11_recutOn 80 = .ok (.iload 5, 2) := by decide +kernel
theorem dX11_recutOn_82 : decode cX11_recutOn 82 = .ok (.iastore, 1) := by decide +kernel
theorem dX11_recutOn_83 : decode cX11_recutOn 83 = .ok (.aload_n 0, 1) := by decide +kernel
theorem dX11_recutOn_84 : decode cX11_recutOn 84 = .ok (.iload 4, 2) := by decide +kernel
theorem dX11_recutOn_86 : decode cX11_recutOn 86 = .ok (.iconst 3, 1) := by decide +kernel
theorem dX11_recutOn_87 : decode cX11_recutOn 87 = .ok (.iadd, 1) := by decide +kernel
theorem dX11_recutOn_88 : decode cX11_recutOn 88 = .ok (.iconst 0, 1) := by decide +kernel
theorem dX11_recutOn_89 : decode cX11_recutOn 89 = .ok (.iastore, 1) := by decide +kernel
theorem dX11_recutOn_90 : decode cX11_recutOn 90 = .ok (.aload_n 0, 1) := by decide +kernel
theorem dX11_recutOn_91 : decode cX11_recutOn 91 = .ok (.iload 4, 2) := by decide +kernel
theorem dX11_recutOn_93 : decode cX11_recutOn 93 = .ok (.iconst 4, 1) := by decide +kernel
theorem dX11_recutOn_94 : decode cX11_recutOn 94 = .ok (.iadd, 1) := by decide +kernel
theorem dX11_recutOn_95 : decode cX11_recutOn 95 = .ok (.dup2, 1) := by decide +kernel
theorem dX11_recutOn_96 : decode cX11_recutOn 96 = .ok (.iaload, 1) := by decide +kernel
theorem dX11_recutOn_97 : decode cX11_recutOn 97 = .ok (.iconst 1, 1) := by decide +kernel
theorem dX11_recutOn_98 : decode cX11_recutOn 98 = .ok (.iadd, 1) := by decide +kernel
theorem dX11_recutOn_99 : decode cX11_recutOn 99 = .ok (.iastore, 1) := by decide +kernel
theorem dX11_recutOn_100 : decode cX11_recutOn 100 = .ok (.aload_n 0, 1) := by decide +kernel
theorem dX11_recutOn_101 : decode cX11_recutOn 101 = .ok (.iload 4, 2) := by decide +kernel
theorem dX11_recutOn_103 : decode cX11_recutOn 103 = .ok (.iconst 2, 1) := by decide +kernel
theorem dX11_recutOn_104 : decode cX11_recutOn 104 = .ok (.iadd, 1) := by decide +kernel
theorem dX11_recutOn_105 : decode cX11_recutOn 105 = .ok (.iaload, 1) := by decide +kernel
theorem dX11_recutOn_106 : decode cX11_recutOn 106 = .ok (.ireturn, 1) := by decide +kernel
theorem dX11_why_0 : decode cX11_why 0 = .ok (.aload_n 0, 1) := by decide +kernel
theorem dX11_why_1 : decode cX11_why 1 = .ok (.bipush 50, 2) := by decide +kernel
theorem dX11_why_3 : decode cX11_why 3 = .ok (.bipush 6, 2) := by decide +kernel
theorem dX11_why_5 : decode cX11_why 5 = .ok (.iload_n 1, 1) := by decide +kernel
theorem dX11_why_6 : decode cX11_why 6 = .ok (.imul, 1) := by decide +kernel
theorem dX11_why_7 : decode cX11_why 7 = .ok (.iadd, 1) := by decide +kernel
theorem dX11_why_8 : decode cX11_why 8 = .ok (.iaload, 1) := by decide +kernel
theorem dX11_why_9 : decode cX11_why 9 = .ok (.istore_n 2, 1) := by decide +kernel
theorem dX11_why_10 : decode cX11_why 10 = .ok (.aload_n 0, 1) := by decide +kernel
theorem dX11_why_11 : decode cX11_why 11 = .ok (.bipush 50, 2) := by decide +kernel
theorem dX11_why_13 : decode cX11_why 13 = .ok (.bipush 6, 2) := by decide +kernel
theorem dX11_why_15 : decode cX11_why 15 = .ok (.iload_n 1, 1) := by decide +kernel
theorem dX11_why_16 : decode cX11_why 16 = .ok (.imul, 1) := by decide +kernel
theorem dX11_why_17 : decode cX11_why 17 = .ok (.iadd, 1) := by decide +kernel
theorem dX11_why_18 : decode cX11_why 18 = .ok (.iconst 3, 1) := by decide +kernel
theorem dX11_why_19 : decode cX11_why 19 = .ok (.iadd, 1) := by decide +kernel
theorem dX11_why_20 : decode cX11_why 20 = .ok (.iaload, 1) := by decide +kernel
theorem dX11_why_21 : decode cX11_why 21 = .ok (.iconst 1, 1) := by decide +kernel
theorem dX11_why_22 : decode cX11_why 22 = .ok (.if_icmp .eq 5, 3) := by decide +kernel
theorem dX11_why_25 : decode cX11_why 25 = .ok (.iconst 1, 1) := by decide +kernel
theorem dX11_why_26 : decode cX11_why 26 = .ok (.ireturn, 1) := by decide +kernel
theorem dX11_why_27 : decode cX11_why 27 = .ok (.aload_n 0, 1) := by decide +kernel
theorem dX11_why_28 : decode cX11_why 28 = .ok (.iconst 2, 1) := by decide +kernel
theorem dX11_why_29 : decode cX11_why 29 = .ok (.iaload, 1) := by decide +kernel
theorem dX11_why_30 : decode cX11_why 30 = .ok (.iconst 1, 1) := by decide +kernel
theorem dX11_why_31 : decode cX11_why 31 = .ok (.if_icmp .ne 5, 3) := by decide +kernel
theorem dX11_why_34 : decode cX11_why 34 = .ok (.iconst 2, 1) := by decide +kernel
theorem dX11_why_35 : decode cX11_why 35 = .ok (.ireturn, 1) := by decide +kernel
theorem dX11_why_36 : decode cX11_why 36 = .ok (.iconst 0, 1) := by decide +kernel
theorem dX11_why_37 : decode cX11_why 37 = .ok (.istore_n 3, 1) := by decide +kernel
theorem dX11_why_38 : decode cX11_why 38 = .ok (.iload_n 3, 1) := by decide +kernel
theorem dX11_why_39 : decode cX11_why 39 = .ok (.iload_n 2, 1) := by decide +kernel
theorem dX11_why_40 : decode cX11_why 40 = .ok (.if_icmp .ge 19, 3) := by decide +kernel
theorem dX11_why_43 : decode cX11_why 43 = .ok (.aload_n 0, 1) := by decide +kernel
theorem dX11_why_44 : decode cX11_why 44 = .ok (.iload_n 3, 1) := by decide +kernel
theorem dX11_why_45 : decode cX11_why 45 = .ok (.invokestatic 64, 3) := by decide +kernel
theorem dX11_why_48 : decode cX11_why 48 = .ok (.ifCond .ne 5, 3) := by decide +kernel
theorem dX11_why_51 : decode cX11_why 51 = .ok (.iconst 3, 1) := by decide +kernel
theorem dX11_why_52 : decode cX11_why 52 = .ok (.ireturn, 1) := by decide +kernel
theorem dX11_why_53 : decode cX11_why 53 = .ok (.iinc 3 1, 3) := by decide +kernel
theorem dX11_why_56 : decode cX11_why 56 = .ok (.goto (-18), 3) := by decide +kernel
theorem dX11_why_59 : decode cX11_why 59 = .ok (.aload_n 0, 1) := by decide +kernel
theorem dX11_why_60 : decode cX11_why 60 = .ok (.iload_n 2, 1) := by decide +kernel
theorem dX11_why_61 : decode cX11_why 61 = .ok (.invokestatic 64, 3) := by decide +kernel
theorem dX11_why_64 : decode cX11_why 64 = .ok (.ifCond .eq 7, 3) := by decide +kernel
theorem dX11_why_67 : decode cX11_why 67 = .ok (.iconst 4, 1) := by decide +kernel
theorem dX11_why_68 : decode cX11_why 68 = .ok (.goto 4, 3) := by decide +kernel
theorem dX11_why_71 : decode cX11_why 71 = .ok (.iconst 0, 1) := by decide +kernel
theorem dX11_why_72 : decode cX11_why 72 = .ok (.ireturn, 1) := by decide +kernel
theorem dX11_dayOn_0 : decode cX11_dayOn 0 = .ok (.aload_n 0, 1) := by decide +kernel
theorem dX11_dayOn_1 : decode cX11_dayOn 1 = .ok (.iconst 1, 1) := by decide +kernel
theorem dX11_dayOn_2 : decode cX11_dayOn 2 = .ok (.dup2, 1) := by decide +kernel
theorem dX11_dayOn_3 : decode cX11_dayOn 3 = .ok (.iaload, 1) := by decide +kernel
theorem dX11_dayOn_4 : decode cX11_dayOn 4 = .ok (.iconst 1, 1) := by decide +kernel
theorem dX11_dayOn_5 : decode cX11_dayOn 5 = .ok (.iadd, 1) := by decide +kernel
theorem dX11_dayOn_6 : decode cX11_dayOn 6 = .ok (.iastore, 1) := by decide +kernel
theorem dX11_dayOn_7 : decode cX11_dayOn 7 = .ok (.aload_n 0, 1) := by decide +kernel
theorem dX11_dayOn_8 : decode cX11_dayOn 8 = .ok (.iconst 2, 1) := by decide +kernel
theorem dX11_dayOn_9 : decode cX11_dayOn 9 = .ok (.iload_n 1, 1) := by decide +kernel
theorem dX11_dayOn_10 : decode cX11_dayOn 10 = .ok (.iastore, 1) := by decide +kernel
theorem dX11_dayOn_11 : decode cX11_dayOn 11 = .ok (.aload_n 0, 1) := by decide +kernel
theorem dX11_dayOn_12 : decode cX11_dayOn 12 = .ok (.iconst 4, 1) := by decide +kernel
theorem dX11_dayOn_13 : decode cX11_dayOn 13 = .ok (.dup2, 1) := by decide +kernel
theorem dX11_dayOn_14 : decode cX11_dayOn 14 = .ok (.iaload, 1) := by decide +kernel
theorem dX11_dayOn_15 : decode cX11_dayOn 15 = .ok (.iload_n 1, 1) := by decide +kernel
theorem dX11_dayOn_16 : decode cX11_dayOn 16 = .ok (.iadd, 1) := by decide +kernel
theorem dX11_dayOn_17 : decode cX11_dayOn 17 = .ok (.iastore, 1) := by decide +kernel
theorem dX11_dayOn_18 : decode cX11_dayOn 18 = .ok (.iconst 0, 1) := by decide +kernel
theorem dX11_dayOn_19 : decode cX11_dayOn 19 = .ok (.istore_n 2, 1) := by decide +kernel
theorem dX11_dayOn_20 : decode cX11_dayOn 20 = .ok (.iload_n 2, 1) := by decide +kernel
theorem dX11_dayOn_21 : decode cX11_dayOn 21 = .ok (.aload_n 0, 1) := by decide +kernel
theorem dX11_dayOn_22 : decode cX11_dayOn 22 = .ok (.bipush 6, 2) := by decide +kernel
theorem dX11_dayOn_24 : decode cX11_dayOn 24 = .ok (.iaload, 1) := by decide +kernel
theorem dX11_dayOn_25 : decode cX11_dayOn 25 = .ok (.if_icmp .ge 57, 3) := by decide +kernel
theorem dX11_dayOn_28 : decode cX11_dayOn 28 = .ok (.bipush 26, 2) := by decide +kernel
theorem dX11_dayOn_30 : decode cX11_dayOn 30 = .ok (.iconst 4, 1) := by decide +kernel
theorem dX11_dayOn_31 : decode cX11_dayOn 31 = .ok (.iload_n 2, 1) := by decide +kernel
theorem dX11_dayOn_32 : decode cX11_dayOn 32 = .ok (.imul, 1) := by decide +kernel
theorem dX11_dayOn_33 : decode cX11_dayOn 33 = .ok (.iadd, 1) := by decide +kernel
theorem dX11_dayOn_34 : decode cX11_dayOn 34 = .ok (.istore_n 3, 1) := by decide +kernel
theorem dX11_dayOn_35 : decode cX11_dayOn 35 = .ok (.aload_n 0, 1) := by decide +kernel
theorem dX11_dayOn_36 : decode cX11_dayOn 36 = .ok (.iload_n 3, 1) := by decide +kernel
theorem dX11_dayOn_37 : decode cX11_dayOn 37 = .ok (.iconst 2, 1) := by decide +kernel
theorem dX11_dayOn_38 : decode cX11_dayOn 38 = .ok (.iadd, 1) := by decide +kernel
theorem dX11_dayOn_39 : decode cX11_dayOn 39 = .ok (.iload_n 1, 1) := by decide +kernel
theorem dX11_dayOn_40 : decode cX11_dayOn 40 = .ok (.iconst 1, 1) := by decide +kernel
theorem dX11_dayOn_41 : decode cX11_dayOn 41 = .ok (.if_icmp .ne 7, 3) := by decide +kernel
theorem dX11_dayOn_44 : decode cX11_dayOn 44 = .ok (.iconst 0, 1) := by decide +kernel
theorem dX11_dayOn_45 : decode cX11_dayOn 45 = .ok (.goto 8, 3) := by decide +kernel
theorem dX11_dayOn_48 : decode cX11_dayOn 48 = .ok (.aload_n 0, 1) := by decide +kernel
theorem dX11_dayOn_49 : decode cX11_dayOn 49 = .ok (.iload_n 3, 1) := by decide +kernel
theorem dX11_dayOn_50 : decode cX11_dayOn 50 = .ok (.iconst 1, 1) := by decide +kernel
theorem dX11_dayOn_51 : decode cX11_dayOn 51 = .ok (.iadd, 1) := by decide +kernel
theorem dX11_dayOn_52 : decode cX11_dayOn 52 = .ok (.iaload, 1) := by decide +kernel
theorem dX11_dayOn_53 : decode cX11_dayOn 53 = .ok (.iastore, 1) := by decide +kernel
theorem dX11_dayOn_54 : decode cX11_dayOn 54 = .ok (.aload_n 0, 1) := by decide +kernel
theorem dX11_dayOn_55 : decode cX11_dayOn 55 = .ok (.iload_n 3, 1) := by decide +kernel
theorem dX11_dayOn_56 : decode cX11_dayOn 56 = .ok (.iconst 3, 1) := by decide +kernel
theorem dX11_dayOn_57 : decode cX11_dayOn 57 = .ok (.iadd, 1) := by decide +kernel
theorem dX11_dayOn_58 : decode cX11_dayOn 58 = .ok (.dup2, 1) := by decide +kernel
theorem dX11_dayOn_59 : decode cX11_dayOn 59 = .ok (.iaload, 1) := by decide +kernel
theorem dX11_dayOn_60 : decode cX11_dayOn 60 = .ok (.iload_n 1, 1) := by decide +kernel
theorem dX11_dayOn_61 : decode cX11_dayOn 61 = .ok (.iconst 1, 1) := by decide +kernel
theorem dX11_dayOn_62 : decode cX11_dayOn 62 = .ok (.if_icmp .ne 11, 3) := by decide +kernel
theorem dX11_dayOn_65 : decode cX11_dayOn 65 = .ok (.iconst 2, 1) := by decide +kernel
theorem dX11_dayOn_66 : decode cX11_dayOn 66 = .ok (.aload_n 0, 1) := by decide +kernel
theorem dX11_dayOn_67 : decode cX11_dayOn 67 = .ok (.iload_n 3, 1) := by decide +kernel
theorem dX11_dayOn_68 : decode cX11_dayOn 68 = .ok (.iaload, 1) := by decide +kernel
theorem dX11_dayOn_69 : decode cX11_dayOn 69 = .ok (.imul, 1) := by decide +kernel
theorem dX11_dayOn_70 : decode cX11_dayOn 70 = .ok (.goto 4, 3) := by decide +kernel
theorem dX11_dayOn_73 : decode cX11_dayOn 73 = .ok (.iconst 0, 1) := by decide +kernel
theorem dX11_dayOn_74 : decode cX11_dayOn 74 = .ok (.iadd, 1) := by decide +kernel
theorem dX11_dayOn_75 : decode cX11_dayOn 75 = .ok (.iastore, 1) := by decide +kernel
theorem dX11_dayOn_76 : decode cX11_dayOn 76 = .ok (.iinc 2 1, 3) := by decide +kernel
theorem dX11_dayOn_79 : decode cX11_dayOn 79 = .ok (.goto (-59), 3) := by decide +kernel
theorem dX11_dayOn_82 : decode cX11_dayOn 82 = .ok (.aload_n 0, 1) := by decide +kernel
theorem dX11_dayOn_83 : decode cX11_dayOn 83 = .ok (.iconst 1, 1) := by decide +kernel
theorem dX11_dayOn_84 : decode cX11_dayOn 84 = .ok (.iaload, 1) := by decide +kernel
theorem dX11_dayOn_85 : decode cX11_dayOn 85 = .ok (.ireturn, 1) := by decide +kernel
theorem dX11_recutCourse_0 : decode cX11_recutCourse 0 = .ok (.aload_n 0, 1) := by decide +kernel
theorem dX11_recutCourse_1 : decode cX11_recutCourse 1 = .ok (.bipush 50, 2) := by decide +kernel
theorem dX11_recutCourse_3 : decode cX11_recutCourse 3 = .ok (.bipush 6, 2) := by decide +kernel
theorem dX11_recutCourse_5 : decode cX11_recutCourse 5 = .ok (.iload_n 1, 1) := by decide +kernel
theorem dX11_recutCourse_6 : decode cX11_recutCourse 6 = .ok (.imul, 1) := by decide +kernel
theorem dX11_recutCourse_7 : decode cX11_recutCourse 7 = .ok (.iadd, 1) := by decide +kernel
theorem dX11_recutCourse_8 : decode cX11_recutCourse 8 = .ok (.iaload, 1) := by decide +kernel
theorem dX11_recutCourse_9 : decode cX11_recutCourse 9 = .ok (.istore_n 2, 1) := by decide +kernel
theorem dX11_recutCourse_10 : decode cX11_recutCourse 10 = .ok (.bipush (-9), 2) := by decide +kernel
theorem dX11_recutCourse_12 : decode cX11_recutCourse 12 = .ok (.istore_n 3, 1) := by decide +kernel
theorem dX11_recutCourse_13 : decode cX11_recutCourse 13 = .ok (.iconst 0, 1) := by decide +kernel
theorem dX11_recutCourse_14 : decode cX11_recutCourse 14 = .ok (.istore 4, 2) := by decide +kernel
theorem dX11_recutCourse_16 : decode cX11_recutCourse 16 = .ok (.iload 4, 2) := by decide +kernel
theorem dX11_recutCourse_18 : decode cX11_recutCourse 18 = .ok (.aload_n 0, 1) := by decide +kernel
theorem dX11_recutCourse_19 : decode cX11_recutCourse 19 = .ok (.iconst 5, 1) := by decide +kernel
theorem dX11_recutCourse_20 : decode cX11_recutCourse 20 = .ok (.iaload, 1) := by decide +kernel
theorem dX11_recutCourse_21 : decode cX11_recutCourse 21 = .ok (.if_icmp .ge 86, 3) := by decide +kernel
theorem dX11_recutCourse_24 : decode cX11_recutCourse 24 = .ok (.aload_n 0, 1) := by decide +kernel
theorem dX11_recutCourse_25 : decode cX11_recutCourse 25 = .ok (.bipush 50, 2) := by decide +kernel
theorem dX11_recutCourse_27 : decode cX11_recutCourse 27 = .ok (.bipush 6, 2) := by decide +kernel
theorem dX11_recutCourse_29 : decode cX11_recutCourse 29 = .ok (.iload_n 1, 1) := by decide +kernel
theorem dX11_recutCourse_30 : decode cX11_recutCourse 30 = .ok (.imul, 1) := by decide +kernel
theorem dX11_recutCourse_31 : decode cX11_recutCourse 31 = .ok (.iadd, 1) := by decide +kernel
theorem dX11_recutCourse_32 : decode cX11_recutCourse 32 = .ok (.iconst 3, 1) := by decide +kernel
theorem dX11_recutCourse_33 : decode cX11_recutCourse 33 = .ok (.iadd, 1) := by decide +kernel
theorem dX11_recutCourse_34 : decode cX11_recutCourse 34 = .ok (.iaload, 1) := by decide +kernel
theorem dX11_recutCourse_35 : decode cX11_recutCourse 35 = .ok (.iconst 2, 1) := by decide +kernel
theorem dX11_recutCourse_36 : decode cX11_recutCourse 36 = .ok (.if_icmp .ne 30, 3) := by decide +kernel
theorem dX11_recutCourse_39 : decode cX11_recutCourse 39 = .ok (.aload_n 0, 1) := by decide +kernel
theorem dX11_recutCourse_40 : decode cX11_recutCourse 40 = .ok (.iload 4, 2) := by decide +kernel
theorem dX11_recutCourse_42 : decode cX11_recutCourse 42 = .ok (.invokestatic 61, 3) := by decide +kernel
theorem dX11_recutCourse_45 : decode cX11_recutCourse 45 = .ok (.aload_n 0, 1) := by decide +kernel
theorem dX11_recutCourse_46 : decode cX11_recutCourse 46 = .ok (.iload_n 2, 1) := by decide +kernel
theorem dX11_recutCourse_47 : decode cX11_recutCourse 47 = .ok (.invokestatic 61, 3) := by decide +kernel
theorem dX11_recutCourse_50 : decode cX11_recutCourse 50 = .ok (.if_icmp .ge 16, 3) := by decide +kernel
theorem dX11_recutCourse_53 : decode cX11_recutCourse 53 = .ok (.aload_n 0, 1) := by decide +kernel
theorem dX11_recutCourse_54 : decode cX11_recutCourse 54 = .ok (.iload 4, 2) := by decide +kernel
theorem dX11_recutCourse_56 : decode cX11_recutCourse 56 = .ok (.invokestatic 68, 3) := by decide +kernel
theorem dX11_recutCourse_59 : decode cX11_recutCourse 59 = .ok (.ifCond .le 7, 3) := by decide +kernel
theorem dX11_recutCourse_62 : decode cX11_recutCourse 62 = .ok (.iconst 1, 1) := by decide +kernel
theorem dX11_recutCourse_63 : decode cX11_recutCourse 63 = .ok (.goto 4, 3) := by decide +kernel
theorem dX11_recutCourse_66 : decode cX11_recutCourse 66 = .ok (.iconst 0, 1) := by decide +kernel
theorem dX11_recutCourse_67 : decode cX11_recutCourse 67 = .ok (.istore 5, 2) := by decide +kernel
theorem dX11_recutCourse_69 : decode cX11_recutCourse 69 = .ok (.iload 5, 2) := by decide +kernel
theorem dX11_recutCourse_71 : decode cX11_recutCourse 71 = .ok (.ifCond .eq 28, 3) := by decide +kernel
theorem dX11_recutCourse_74 : decode cX11_recutCourse 74 = .ok (.iload_n 3, 1) := by decide +kernel
theorem dX11_recutCourse_75 : decode cX11_recutCourse 75 = .ok (.bipush (-9), 2) := by decide +kernel
theorem dX11_recutCourse_77 : decode cX11_recutCourse 77 = .ok (.if_icmp .eq 17, 3) := by decide +kernel
theorem dX11_recutCourse_80 : decode cX11_recutCourse 80 = .ok (.aload_n 0, 1) := by decide +kernel
theorem dX11_recutCourse_81 : decode cX11_recutCourse 81 = .ok (.iload 4, 2) := by decide +kernel
theorem dX11_recutCourse_83 : decode cX11_recutCourse 83 = .ok (.invokestatic 61, 3) := by decide +kernel
theorem dX11_recutCourse_86 : decode cX11_recutCourse 86 = .ok (.aload_n 0, 1) := by decide +kernel
theorem dX11_recutCourse_87 : decode cX11_recutCourse 87 = .ok (.iload_n 3, 1) := by decide +kernel
theorem dX11_recutCourse_88 : decode cX11_recutCourse 88 = .ok (.invokestatic 61, 3) := by decide +kernel
theorem dX11_recutCourse_91 : decode cX11_recutCourse 91 = .ok (.if_icmp .le 8, 3) := by decide +kernel
theorem dX11_recutCourse_94 : decode cX11_recutCourse 94 = .ok (.iload 4, 2) := by decide +kernel
theorem dX11_recutCourse_96 : decode cX11_recutCourse 96 = .ok (.goto 4, 3) := by decide +kernel
theorem dX11_recutCourse_99 : decode cX11_recutCourse 99 = .ok (.iload_n 3, 1) := by decide +kernel
theorem dX11_recutCourse_100 : decode cX11_recutCourse 100 = .ok (.istore_n 3, 1) := by decide +kernel
theorem dX11_recutCourse_101 : decode cX11_recutCourse 101 = .ok (.iinc 4 1, 3) := by decide +kernel
theorem dX11_recutCourse_104 : decode cX11_recutCourse 104 = .ok (.goto (-88), 3) := by decide +kernel
theorem dX11_recutCourse_107 : decode cX11_recutCourse 107 = .ok (.iload_n 3, 1) := by decide +kernel
theorem dX11_recutCourse_108 : decode cX11_recutCourse 108 = .ok (.ireturn, 1) := by decide +kernel
theorem dX11_append_0 : decode cX11_append 0 = .ok (.aload_n 0, 1) := by decide +kernel
theorem dX11_append_1 : decode cX11_append 1 = .ok (.iload_n 1, 1) := by decide +kernel
theorem dX11_append_2 : decode cX11_append 2 = .ok (.i2l, 1) := by decide +kernel
theorem dX11_append_3 : decode cX11_append 3 = .ok (.lconst 0, 1) := by decide +kernel
theorem dX11_append_4 : decode cX11_append 4 = .ok (.ldc2_w 71, 3) := by decide +kernel
theorem dX11_append_7 : decode cX11_append 7 = .ok (.invokestatic 39, 3) := by decide +kernel
theorem dX11_append_10 : decode cX11_append 10 = .ok (.ifCond .ne 7, 3) := by decide +kernel
theorem dX11_append_13 : decode cX11_append 13 = .ok (.iconst 1, 1) := by decide +kernel
theorem dX11_append_14 : decode cX11_append 14 = .ok (.goto 17, 3) := by decide +kernel
theorem dX11_append_17 : decode cX11_append 17 = .ok (.aload_n 0, 1) := by decide +kernel
theorem dX11_append_18 : decode cX11_append 18 = .ok (.getfield 73, 3) := by decide +kernel
theorem dX11_append_21 : decode cX11_append 21 = .ok (.bipush 80, 2) := by decide +kernel
theorem dX11_append_23 : decode cX11_append 23 = .ok (.if_icmp .ne 7, 3) := by decide +kernel
theorem dX11_append_26 : decode cX11_append 26 = .ok (.iconst 2, 1) := by decide +kernel
theorem dX11_append_27 : decode cX11_append 27 = .ok (.goto 4, 3) := by decide +kernel
theorem dX11_append_30 : decode cX11_append 30 = .ok (.iconst 0, 1) := by decide +kernel
theorem dX11_append_31 : decode cX11_append 31 = .ok (.invokevirtual 76, 3) := by decide +kernel
theorem dX11_append_34 : decode cX11_append 34 = .ok (.ifCond .eq 5, 3) := by decide +kernel
theorem dX11_append_37 : decode cX11_append 37 = .ok (.iconst 0, 1) := by decide +kernel
theorem dX11_append_38 : decode cX11_append 38 = .ok (.ireturn, 1) := by decide +kernel
theorem dX11_append_39 : decode cX11_append 39 = .ok (.aload_n 0, 1) := by decide +kernel
theorem dX11_append_40 : decode cX11_append 40 = .ok (.getfield 7, 3) := by decide +kernel
theorem dX11_append_43 : decode cX11_append 43 = .ok (.aload_n 0, 1) := by decide +kernel
theorem dX11_append_44 : decode cX11_append 44 = .ok (.getfield 73, 3) := by decide +kernel
theorem dX11_append_47 : decode cX11_append 47 = .ok (.iload_n 1, 1) := by decide +kernel
theorem dX11_append_48 : decode cX11_append 48 = .ok (.iastore, 1) := by decide +kernel
theorem dX11_append_49 : decode cX11_append 49 = .ok (.aload_n 0, 1) := by decide +kernel
theorem dX11_append_50 : decode cX11_append 50 = .ok (.dup, 1) := by decide +kernel
theorem dX11_append_51 : decode cX11_append 51 = .ok (.getfield 73, 3) := by decide +kernel
theorem dX11_append_54 : decode cX11_append 54 = .ok (.iconst 1, 1) := by decide +kernel
theorem dX11_append_55 : decode cX11_append 55 = .ok (.iadd, 1) := by decide +kernel
theorem dX11_append_56 : decode cX11_append 56 = .ok (.putfield 73, 3) := by decide +kernel
theorem dX11_append_59 : decode cX11_append 59 = .ok (.aload_n 0, 1) := by decide +kernel
theorem dX11_append_60 : decode cX11_append 60 = .ok (.getfield 73, 3) := by decide +kernel
theorem dX11_append_63 : decode cX11_append 63 = .ok (.ireturn, 1) := by decide +kernel
theorem dX11_clearText_0 : decode cX11_clearText 0 = .ok (.aload_n 0, 1) := by decide +kernel
theorem dX11_clearText_1 : decode cX11_clearText 1 = .ok (.iconst 0, 1) := by decide +kernel
theorem dX11_clearText_2 : decode cX11_clearText 2 = .ok (.putfield 35, 3) := by decide +kernel
theorem dX11_clearText_5 : decode cX11_clearText 5 = .ok (.aload_n 0, 1) := by decide +kernel
theorem dX11_clearText_6 : decode cX11_clearText 6 = .ok (.getfield 73, 3) := by decide +kernel
theorem dX11_clearText_9 : decode cX11_clearText 9 = .ok (.istore_n 1, 1) := by decide +kernel
theorem dX11_clearText_10 : decode cX11_clearText 10 = .ok (.aload_n 0, 1) := by decide +kernel
theorem dX11_clearText_11 : decode cX11_clearText 11 = .ok (.iconst 0, 1) := by decide +kernel
theorem dX11_clearText_12 : decode cX11_clearText 12 = .ok (.putfield 73, 3) := by decide +kernel
theorem dX11_clearText_15 : decode cX11_clearText 15 = .ok (.iload_n 1, 1) := by decide +kernel
theorem dX11_clearText_16 : decode cX11_clearText 16 = .ok (.ireturn, 1) := by decide +kernel
theorem dX11_eat_0 : decode cX11_eat 0 = .ok (.aload_n 0, 1) := by decide +kernel
theorem dX11_eat_1 : decode cX11_eat 1 = .ok (.getfield 80, 3) := by decide +kernel
theorem dX11_eat_4 : decode cX11_eat 4 = .ok (.aload_n 0, 1) := by decide +kernel
theorem dX11_eat_5 : decode cX11_eat 5 = .ok (.getfield 73, 3) := by decide +kernel
theorem dX11_eat_8 : decode cX11_eat 8 = .ok (.if_icmp .ge 20, 3) := by decide +kernel
theorem dX11_eat_11 : decode cX11_eat 11 = .ok (.aload_n 0, 1) := by decide +kernel
theorem dX11_eat_12 : decode cX11_eat 12 = .ok (.getfield 7, 3) := by decide +kernel
theorem dX11_eat_15 : decode cX11_eat 15 = .ok (.aload_n 0, 1) := by decide +kernel
theorem dX11_eat_16 : decode cX11_eat 16 = .ok (.getfield 80, 3) := by decide +kernel
theorem dX11_eat_19 : decode cX11_eat 19 = .ok (.iaload, 1) := by decide +kernel
theorem dX11_eat_20 : decode cX11_eat 20 = .ok (.iload_n 1, 1) := by decide +kernel
theorem dX11_eat_21 : decode cX11_eat 21 = .ok (.if_icmp .ne 7, 3) := by decide +kernel
theorem dX11_eat_24 : decode cX11_eat 24 = .ok (.iconst 1, 1) := by decide +kernel
theorem dX11_eat_25 : decode cX11_eat 25 = .ok (.goto 4, 3) := by decide +kernel
theorem dX11_eat_28 : decode cX11_eat 28 = .ok (.iconst 0, 1) := by decide +kernel
theorem dX11_eat_29 : decode cX11_eat 29 = .ok (.istore_n 2, 1) := by decide +kernel
theorem dX11_eat_30 : decode cX11_eat 30 = .ok (.aload_n 0, 1) := by decide +kernel
theorem dX11_eat_31 : decode cX11_eat 31 = .ok (.dup, 1) := by decide +kernel
theorem dX11_eat_32 : decode cX11_eat 32 = .ok (.getfield 80, 3) := by decide +kernel
theorem dX11_eat_35 : decode cX11_eat 35 = .ok (.iload_n 2, 1) := by decide +kernel
theorem dX11_eat_36 : decode cX11_eat 36 = .ok (.ifCond .eq 7, 3) := by decide +kernel
theorem dX11_eat_39 : decode cX11_eat 39 = .ok (.iconst 1, 1) := by decide +kernel
theorem dX11_eat_40 : decode cX11_eat 40 = .ok (.goto 4, 3) := by decide +kernel
theorem dX11_eat_43 : decode cX11_eat 43 = .ok (.iconst 0, 1) := by decide +kernel
theorem dX11_eat_44 : decode cX11_eat 44 = .ok (.iadd, 1) := by decide +kernel
theorem dX11_eat_45 : decode cX11_eat 45 = .ok (.putfield 80, 3) := by decide +kernel
theorem dX11_eat_48 : decode cX11_eat 48 = .ok (.iload_n 2, 1) := by decide +kernel
theorem dX11_eat_49 : decode cX11_eat 49 = .ok (.ireturn, 1) := by decide +kernel
theorem dX11_digit_0 : decode cX11_digit 0 = .ok (.aload_n 0, 1) := by decide +kernel
theorem dX11_digit_1 : decode cX11_digit 1 = .ok (.getfield 80, 3) := by decide +kernel
theorem dX11_digit_4 : decode cX11_digit 4 = .ok (.aload_n 0, 1) := by decide +kernel
theorem dX11_digit_5 : decode cX11_digit 5 = .ok (.getfield 73, 3) := by decide +kernel
theorem dX11_digit_8 : decode cX11_digit 8 = .ok (.if_icmp .ge 18, 3) := by decide +kernel
theorem dX11_digit_11 : decode cX11_digit 11 = .ok (.aload_n 0, 1) := by decide +kernel
theorem dX11_digit_12 : decode cX11_digit 12 = .ok (.getfield 7, 3) := by decide +kernel
theorem dX11_digit_15 : decode cX11_digit 15 = .ok (.aload_n 0, 1) := by decide +kernel
theorem dX11_digit_16 : decode cX11_digit 16 = .ok (.getfield 80, 3) := by decide +kernel
theorem dX11_digit_19 : decode cX11_digit 19 = .ok (.iaload, 1) := by decide +kernel
theorem dX11_digit_20 : decode cX11_digit 20 = .ok (.bipush 48, 2) := by decide +kernel
theorem dX11_digit_22 : decode cX11_digit 22 = .ok (.isub, 1) := by decide +kernel
theorem dX11_digit_23 : decode cX11_digit 23 = .ok (.goto 5, 3) := by decide +kernel
theorem dX11_digit_26 : decode cX11_digit 26 = .ok (.bipush (-9), 2) := by decide +kernel
theorem dX11_digit_28 : decode cX11_digit 28 = .ok (.istore_n 3, 1) := by decide +kernel
theorem dX11_digit_29 : decode cX11_digit 29 = .ok (.iload_n 3, 1) := by decide +kernel
theorem dX11_digit_30 : decode cX11_digit 30 = .ok (.i2l, 1) := by decide +kernel
theorem dX11_digit_31 : decode cX11_digit 31 = .ok (.iload_n 1, 1) := by decide +kernel
theorem dX11_digit_32 : decode cX11_digit 32 = .ok (.i2l, 1) := by decide +kernel
theorem dX11_digit_33 : decode cX11_digit 33 = .ok (.iload_n 2, 1) := by decide +kernel
theorem dX11_digit_34 : decode cX11_digit 34 = .ok (.i2l, 1) := by decide +kernel
theorem dX11_digit_35 : decode cX11_digit 35 = .ok (.invokestatic 39, 3) := by decide +kernel
theorem dX11_digit_38 : decode cX11_digit 38 = .ok (.ifCond .ne 6, 3) := by decide +kernel
theorem dX11_digit_41 : decode cX11_digit 41 = .ok (.bipush (-9), 2) := by decide +kernel
theorem dX11_digit_43 : decode cX11_digit 43 = .ok (.ireturn, 1) := by decide +kernel
theorem dX11_digit_44 : decode cX11_digit 44 = .ok (.aload_n 0, 1) := by decide +kernel
theorem dX11_digit_45 : decode cX11_digit 45 = .ok (.dup, 1) := by decide +kernel
theorem dX11_digit_46 : decode cX11_digit 46 = .ok (.getfield 80, 3) := by decide +kernel
theorem dX11_digit_49 : decode cX11_digit 49 = .ok (.iconst 1, 1) := by decide +kernel
theorem dX11_digit_50 : decode cX11_digit 50 = .ok (.iadd, 1) := by decide +kernel
theorem dX11_digit_51 : decode cX11_digit 51 = .ok (.putfield 80, 3) := by decide +kernel
theorem dX11_digit_54 : decode cX11_digit 54 = .ok (.iload_n 3, 1) := by decide +kernel
theorem dX11_digit_55 : decode cX11_digit 55 = .ok (.ireturn, 1) := by decide +kernel
theorem dX11_readCourse_0 : decode cX11_readCourse 0 = .ok (.bipush 8, 2) := by decide +kernel
theorem dX11_readCourse_2 : decode cX11_readCourse 2 = .ok (.iconst 3, 1) := by decide +kernel
theorem dX11_readCourse_3 : decode cX11_readCourse 3 = .ok (.aload_n 0, 1) := by decide +kernel
theorem dX11_readCourse_4 : decode cX11_readCourse 4 = .ok (.getfield 13, 3) := by decide +kernel
theorem dX11_readCourse_7 : decode cX11_readCourse 7 = .ok (.iconst 5, 1) := by decide +kernel
theorem dX11_readCourse_8 : decode cX11_readCourse 8 = .ok (.iaload, 1) := by decide +kernel
theorem dX11_readCourse_9 : decode cX11_readCourse 9 = .ok (.imul, 1) := by decide +kernel
theorem dX11_readCourse_10 : decode cX11_readCourse 10 = .ok (.iadd, 1) := by decide +kernel
theorem dX11_readCourse_11 : decode cX11_readCourse 11 = .ok (.istore_n 1, 1) := by decide +kernel
theorem dX11_readCourse_12 : decode cX11_readCourse 12 = .ok (.aload_n 0, 1) := by decide +kernel
theorem dX11_readCourse_13 : decode cX11_readCourse 13 = .ok (.iconst 1, 1) := by decide +kernel
theorem dX11_readCourse_14 : decode cX11_readCourse 14 = .ok (.bipush 9, 2) := by decide +kernel
theorem dX11_readCourse_16 : decode cX11_readCourse 16 = .ok (.invokevirtual 83, 3) := by decide +kernel
theorem dX11_readCourse_19 : decode cX11_readCourse 19 = .ok (.istore_n 2, 1) := by decide +kernel
theorem dX11_readCourse_20 : decode cX11_readCourse 20 = .ok (.iload_n 2, 1) := by decide +kernel
theorem dX11_readCourse_21 : decode cX11_readCourse 21 = .ok (.bipush (-9), 2) := by decide +kernel
theorem dX11_readCourse_23 : decode cX11_readCourse 23 = .ok (.if_icmp .ne 8, 3) := by decide +kernel
theorem dX11_readCourse_26 : decode cX11_readCourse 26 = .ok (.bipush (-9), 2) := by decide +kernel
theorem dX11_readCourse_28 : decode cX11_readCourse 28 = .ok (.goto 10, 3) := by decide +kernel
theorem dX11_readCourse_31 : decode cX11_readCourse 31 = .ok (.aload_n 0, 1) := by decide +kernel
theorem dX11_readCourse_32 : decode cX11_readCourse 32 = .ok (.iconst 1, 1) := by decide +kernel
theorem dX11_readCourse_33 : decode cX11_readCourse 33 = .ok (.bipush 6, 2) := by decide +kernel
theorem dX11_readCourse_35 : decode cX11_readCourse 35 = .ok (.invokevirtual 83, 3) := by decide +kernel
theorem dX11_readCourse_38 : decode cX11_readCourse 38 = .ok (.istore_n 3, 1) := by decide +kernel
theorem dX11_readCourse_39 : decode cX11_readCourse 39 = .ok (.iload_n 3, 1) := by decide +kernel
theorem dX11_readCourse_40 : decode cX11_readCourse 40 = .ok (.bipush (-9), 2) := by decide +kernel
theorem dX11_readCourse_42 : decode cX11_readCourse 42 = .ok (.if_icmp .ne 8, 3) := by decide +kernel
theorem dX11_readCourse_45 : decode cX11_readCourse 45 = .ok (.bipush (-9), 2) := by decide +kernel
theorem dX11_readCourse_47 : decode cX11_readCourse 47 = .ok (.goto 10, 3) := by decide +kernel
theorem dX11_readCourse_50 : decode cX11_readCourse 50 = .ok (.aload_n 0, 1) := by decide +kernel
theorem dX11_readCourse_51 : decode cX11_readCourse 51 = .ok (.iconst 1, 1) := by decide +kernel
theorem dX11_readCourse_52 : decode cX11_readCourse 52 = .ok (.bipush 9, 2) := by decide +kernel
theorem dX11_readCourse_54 : decode cX11_readCourse 54 = .ok (.invokevirtual 83, 3) := by decide +kernel
theorem dX11_readCourse_57 : decode cX11_readCourse 57 = .ok (.istore 4, 2) := by decide +kernel
theorem dX11_readCourse_59 : decode cX11_readCourse 59 = .ok (.iload 4, 2) := by decide +kernel
theorem dX11_readCourse_61 : decode cX11_readCourse 61 = .ok (.bipush (-9), 2) := by decide +kernel
theorem dX11_readCourse_63 : decode cX11_readCourse 63 = .ok (.if_icmp .ne 5, 3) := by decide +kernel
theorem dX11_readCourse_66 : decode cX11_readCourse 66 = .ok (.iconst 0, 1) := by decide +kernel
theorem dX11_readCourse_67 : decode cX11_readCourse 67 = .ok (.ireturn, 1) := by decide +kernel
theorem dX11_readCourse_68 : decode cX11_readCourse 68 = .ok (.aload_n 0, 1) := by decide +kernel
theorem dX11_readCourse_69 : decode cX11_readCourse 69 = .ok (.getfield 13, 3) := by decide +kernel
theorem dX11_readCourse_72 : decode cX11_readCourse 72 = .ok (.iload_n 1, 1) := by decide +kernel
theorem dX11_readCourse_73 : decode cX11_readCourse 73 = .ok (.iload_n 2, 1) := by decide +kernel
theorem dX11_readCourse_74 : decode cX11_readCourse 74 = .ok (.iastore, 1) := by decide +kernel
theorem dX11_readCourse_75 : decode cX11_readCourse 75 = .ok (.aload_n 0, 1) := by decide +kernel
theorem dX11_readCourse_76 : decode cX11_readCourse 76 = .ok (.getfield 13, 3) := by decide +kernel
theorem dX11_readCourse_79 : decode cX11_readCourse 79 = .ok (.iload_n 1, 1) := by decide +kernel
theorem dX11_readCourse_80 : decode cX11_readCourse 80 = .ok (.iconst 1, 1) := by decide +kernel
theorem dX11_readCourse_81 : decode cX11_readCourse 81 = .ok (.iadd, 1) := by decide +kernel
theorem dX11_readCourse_82 : decode cX11_readCourse 82 = .ok (.iload_n 3, 1) := by decide +kernel
theorem dX11_readCourse_83 : decode cX11_readCourse 83 = .ok (.iastore, 1) := by decide +kernel
theorem dX11_readCourse_84 : decode cX11_readCourse 84 = .ok (.aload_n 0, 1) := by decide +kernel
theorem dX11_readCourse_85 : decode cX11_readCourse 85 = .ok (.getfield 13, 3) := by decide +kernel
theorem dX11_readCourse_88 : decode cX11_readCourse 88 = .ok (.iload_n 1, 1) := by decide +kernel
theorem dX11_readCourse_89 : decode cX11_readCourse 89 = .ok (.iconst 2, 1) := by decide +kernel
theorem dX11_readCourse_90 : decode cX11_readCourse 90 = .ok (.iadd, 1) := by decide +kernel
theorem dX11_readCourse_91 : decode cX11_readCourse 91 = .ok (.iload 4, 2) := by decide +kernel
theorem dX11_readCourse_93 : decode cX11_readCourse 93 = .ok (.iastore, 1) := by decide +kernel
theorem dX11_readCourse_94 : decode cX11_readCourse 94 = .ok (.aload_n 0, 1) := by decide +kernel
theorem dX11_readCourse_95 : decode cX11_readCourse 95 = .ok (.getfield 13, 3) := by decide +kernel
theorem dX11_readCourse_98 : decode cX11_readCourse 98 = .ok (.iconst 5, 1) := by decide +kernel
theorem dX11_readCourse_99 : decode cX11_readCourse 99 = .ok (.dup2, 1) := by decide +kernel
theorem dX11_readCourse_100 : decode cX11_readCourse 100 = .ok (.iaload, 1) := by decide +kernel
theorem dX11_readCourse_101 : decode cX11_readCourse 101 = .ok (.iconst 1, 1) := by decide +kernel
theorem dX11_readCourse_102 : decode cX11_readCourse 102 = .ok (.iadd, 1) := by decide +kernel
theorem dX11_readCourse_103 : decode cX11_readCourse 103 = .ok (.iastore, 1) := by decide +kernel
theorem dX11_readCourse_104 : decode cX11_readCourse 104 = .ok (.iconst 1, 1) := by decide +kernel
theorem dX11_readCourse_105 : decode cX11_readCourse 105 = .ok (.ireturn, 1) := by decide +kernel
theorem dX11_readMason_0 : decode cX11_readMason 0 = .ok (.bipush 26, 2) := by decide +kernel
theorem dX11_readMason_2 : decode cX11_readMason 2 = .ok (.iconst 4, 1) := by decide +kernel
theorem dX11_readMason_3 : decode cX11_readMason 3 = .ok (.aload_n 0, 1) := by decide +kernel
theorem dX11_readMason_4 : decode cX11_readMason 4 = .ok (.getfield 13, 3) := by decide +kernel
theorem dX11_readMason_7 : decode cX11_readMason 7 = .ok (.bipush 6, 2) := by decide +kernel
theorem dX11_readMason_9 : decode cX11_readMason 9 = .ok (.iaload, 1) := by decide +kernel
theorem dX11_readMason_10 : decode cX11_readMason 10 = .ok (.imul, 1) := by decide +kernel
theorem dX11_readMason_11 : decode cX11_readMason 11 = .ok (.iadd, 1) := by decide +kernel
theorem dX11_readMason_12 : decode cX11_readMason 12 = .ok (.istore_n 1, 1) := by decide +kernel
theorem dX11_readMason_13 : decode cX11_readMason 13 = .ok (.aload_n 0, 1) := by decide +kernel
theorem dX11_readMason_14 : decode cX11_readMason 14 = .ok (.iconst 1, 1) := by decide +kernel
theorem dX11_readMason_15 : decode cX11_readMason 15 = .ok (.bipush 9, 2) := by decide +kernel
theorem dX11_readMason_17 : decode cX11_readMason 17 = .ok (.invokevirtual 83, 3) := by decide +kernel
theorem dX11_readMason_20 : decode cX11_readMason 20 = .ok (.istore_n 2, 1) := by decide +kernel
theorem dX11_readMason_21 : decode cX11_readMason 21 = .ok (.iload_n 2, 1) := by decide +kernel
theorem dX11_readMason_22 : decode cX11_readMason 22 = .ok (.bipush (-9), 2) := by decide +kernel
theorem dX11_readMason_24 : decode cX11_readMason 24 = .ok (.if_icmp .ne 8, 3) := by decide +kernel
theorem dX11_readMason_27 : decode cX11_readMason 27 = .ok (.bipush (-9), 2) := by decide +kernel
theorem dX11_readMason_29 : decode cX11_readMason 29 = .ok (.goto 9, 3) := by decide +kernel
theorem dX11_readMason_32 : decode cX11_readMason 32 = .ok (.aload_n 0, 1) := by decide +kernel
theorem dX11_readMason_33 : decode cX11_readMason 33 = .ok (.iconst 0, 1) := by decide +kernel
theorem dX11_readMason_34 : decode cX11_readMason 34 = .ok (.iconst 1, 1) := by decide +kernel
theorem dX11_readMason_35 : decode cX11_readMason 35 = .ok (.invokevirtual 83, 3) := by decide +kernel
theorem dX11_readMason_38 : decode cX11_readMason 38 = .ok (.istore_n 3, 1) := by decide +kernel
theorem dX11_readMason_39 : decode cX11_readMason 39 = .ok (.iload_n 3, 1) := by decide +kernel
theorem dX11_readMason_40 : decode cX11_readMason 40 = .ok (.bipush (-9), 2) := by decide +kernel
theorem dX11_readMason_42 : decode cX11_readMason 42 = .ok (.if_icmp .ne 8, 3) := by decide +kernel
theorem dX11_readMason_45 : decode cX11_readMason 45 = .ok (.bipush (-9), 2) := by decide +kernel
theorem dX11_readMason_47 : decode cX11_readMason 47 = .ok (.goto 26, 3) := by decide +kernel
theorem dX11_readMason_50 : decode cX11_readMason 50 = .ok (.aload_n 0, 1) := by decide +kernel
theorem dX11_readMason_51 : decode cX11_readMason 51 = .ok (.iload_n 3, 1) := by decide +kernel
theorem dX11_readMason_52 : decode cX11_readMason 52 = .ok (.ifCond .ne 7, 3) := by decide +kernel
theorem dX11_readMason_55 : decode cX11_readMason 55 = .ok (.iconst 1, 1) := by decide +kernel
theorem dX11_readMason_56 : decode cX11_readMason 56 = .ok (.goto 4, 3) := by decide +kernel
theorem dX11_readMason_59 : decode cX11_readMason 59 = .ok (.iconst 0, 1) := by decide +kernel
theorem dX11_readMason_60 : decode cX11_readMason 60 = .ok (.iload_n 3, 1) := by decide +kernel
theorem dX11_readMason_61 : decode cX11_readMason 61 = .ok (.ifCond .ne 8, 3) := by decide +kernel
theorem dX11_readMason_64 : decode cX11_readMason 64 = .ok (.bipush 9, 2) := by decide +kernel
theorem dX11_readMason_66 : decode cX11_readMason 66 = .ok (.goto 4, 3) := by decide +kernel
theorem dX11_readMason_69 : decode cX11_readMason 69 = .ok (.iconst 2, 1) := by decide +kernel
theorem dX11_readMason_70 : decode cX11_readMason 70 = .ok (.invokevirtual 83, 3) := by decide +kernel
theorem dX11_readMason_73 : decode cX11_readMason 73 = .ok (.istore 4, 2) := by decide +kernel
theorem dX11_readMason_75 : decode cX11_readMason 75 = .ok (.iload 4, 2) := by decide +kernel
theorem dX11_readMason_77 : decode cX11_readMason 77 = .ok (.bipush (-9), 2) := by decide +kernel
theorem dX11_readMason_79 : decode cX11_readMason 79 = .ok (.if_icmp .ne 5, 3) := by decide +kernel
theorem dX11_readMason_82 : decode cX11_readMason 82 = .ok (.iconst 0, 1) := by decide +kernel
theorem dX11_readMason_83 : decode cX11_readMason 83 = .ok (.ireturn, 1) := by decide +kernel
theorem dX11_readMason_84 : decode cX11_readMason 84 = .ok (.aload_n 0, 1) := by decide +kernel
theorem dX11_readMason_85 : decode cX11_readMason 85 = .ok (.getfield 13, 3) := by decide +kernel
theorem dX11_readMason_88 : decode cX11_readMason 88 = .ok (.iload_n 1, 1) := by decide +kernel
theorem dX11_readMason_89 : decode cX11_readMason 89 = .ok (.iload_n 2, 1) := by decide +kernel
theorem dX11_readMason_90 : decode cX11_readMason 90 = .ok (.iastore, 1) := by decide +kernel
theorem dX11_readMason_91 : decode cX11_readMason 91 = .ok (.aload_n 0, 1) := by decide +kernel
theorem dX11_readMason_92 : decode cX11_readMason 92 = .ok (.getfield 13, 3) := by decide +kernel
theorem dX11_readMason_95 : decode cX11_readMason 95 = .ok (.iload_n 1, 1) := by decide +kernel
theorem dX11_readMason_96 : decode cX11_readMason 96 = .ok (.iconst 1, 1) := by decide +kernel
theorem dX11_readMason_97 : decode cX11_readMason 97 = .ok (.iadd, 1) := by decide +kernel
theorem dX11_readMason_98 : decode cX11_readMason 98 = .ok (.bipush 10, 2) := by decide +kernel
theorem dX11_readMason_100 : decode cX11_readMason 100 = .ok (.iload_n 3, 1) := by decide +kernel
theorem dX11_readMason_101 : decode cX11_readMason 101 = .ok (.imul, 1) := by decide +kernel
theorem dX11_readMason_102 : decode cX11_readMason 102 = .ok (.iload 4, 2) := by decide +kernel
theorem dX11_readMason_104 : decode cX11_readMason 104 = .ok (.iadd, 1) := by decide +kernel
theorem dX11_readMason_105 : decode cX11_readMason 105 = .ok (.iastore, 1) := by decide +kernel
theorem dX11_readMason_106 : decode cX11_readMason 106 = .ok (.aload_n 0, 1) := by decide +kernel
theorem dX11_readMason_107 : decode cX11_readMason 107 = .ok (.getfield 13, 3) := by decide +kernel
theorem dX11_readMason_110 : decode cX11_readMason 110 = .ok (.iload_n 1, 1) := by decide +kernel
theorem dX11_readMason_111 : decode cX11_readMason 111 = .ok (.iconst 2, 1) := by decide +kernel
theorem dX11_readMason_112 : decode cX11_readMason 112 = .ok (.iadd, 1) := by decide +kernel
theorem dX11_readMason_113 : decode cX11_readMason 113 = .ok (.aload_n 0, 1) := by decide +kernel
theorem dX11_readMason_114 : decode cX11_readMason 114 = .ok (.getfield 13, 3) := by decide +kernel
theorem dX11_readMason_117 : decode cX11_readMason 117 = .ok (.iload_n 1, 1) := by decide +kernel
theorem dX11_readMason_118 : decode cX11_readMason 118 = .ok (.iconst 1, 1) := by decide +kernel
theorem dX11_readMason_119 : decode cX11_readMason 119 = .ok (.iadd, 1) := by decide +kernel
theorem dX11_readMason_120 : decode cX11_readMason 120 = .ok (.iaload, 1) := by decide +kernel
theorem dX11_readMason_121 : decode cX11_readMason 121 = .ok (.iastore, 1) := by decide +kernel
theorem dX11_readMason_122 : decode cX11_readMason 122 = .ok (.aload_n 0, 1) := by decide +kernel
theorem dX11_readMason_123 : decode cX11_readMason 123 = .ok (.getfield 13, 3) := by decide +kernel
theorem dX11_readMason_126 : decode cX11_readMason 126 = .ok (.iload_n 1, 1) := by decide +kernel
theorem dX11_readMason_127 : decode cX11_readMason 127 = .ok (.iconst 3, 1) := by decide +kernel
theorem dX11_readMason_128 : decode cX11_readMason 128 = .ok (.iadd, 1) := by decide +kernel
theorem dX11_readMason_129 : decode cX11_readMason 129 = .ok (.iconst 0, 1) := by decide +kernel
theorem dX11_readMason_130 : decode cX11_readMason 130 = .ok (.iastore, 1) := by decide +kernel
theorem dX11_readMason_131 : decode cX11_readMason 131 = .ok (.aload_n 0, 1) := by decide +kernel
theorem dX11_readMason_132 : decode cX11_readMason 132 = .ok (.getfield 13, 3) := by decide +kernel
theorem dX11_readMason_135 : decode cX11_readMason 135 = .ok (.bipush 6, 2) := by decide +kernel
theorem dX11_readMason_137 : decode cX11_readMason 137 = .ok (.dup2, 1) := by decide +kernel
theorem dX11_readMason_138 : decode cX11_readMason 138 = .ok (.iaload, 1) := by decide +kernel
theorem dX11_readMason_139 : decode cX11_readMason 139 = .ok (.iconst 1, 1) := by decide +kernel
theorem dX11_readMason_140 : decode cX11_readMason 140 = .ok (.iadd, 1) := by decide +kernel
theorem dX11_readMason_141 : decode cX11_readMason 141 = .ok (.iastore, 1) := by decide +kernel
theorem dX11_readMason_142 : decode cX11_readMason 142 = .ok (.iconst 1, 1) := by decide +kernel
theorem dX11_readMason_143 : decode cX11_readMason 143 = .ok (.ireturn, 1) := by decide +kernel
theorem dX11_readStone_0 : decode cX11_readStone 0 = .ok (.aload_n 0, 1) := by decide +kernel
theorem dX11_readStone_1 : decode cX11_readStone 1 = .ok (.iconst 0, 1) := by decide +kernel
theorem dX11_readStone_2 : decode cX11_readStone 2 = .ok (.aload_n 0, 1) := by decide +kernel
theorem dX11_readStone_3 : decode cX11_readStone 3 = .ok (.getfield 13, 3) := by decide +kernel
theorem dX11_readStone_6 : decode cX11_readStone 6 = .ok (.bipush 6, 2) := by decide +kernel
theorem dX11_readStone_8 : decode cX11_readStone 8 = .ok (.iaload, 1) := by decide +kernel
theorem dX11_readStone_9 : decode cX11_readStone 9 = .ok (.iconst 1, 1) := by decide +kernel
theorem dX11_readStone_10 : decode cX11_readStone 10 = .ok (.isub, 1) := by decide +kernel
theorem dX11_readStone_11 : decode cX11_readStone 11 = .ok (.invokevirtual 83, 3) := by decide +kernel
theorem dX11_readStone_14 : decode cX11_readStone 14 = .ok (.istore_n 1, 1) := by decide +kernel
theorem dX11_readStone_15 : decode cX11_readStone 15 = .ok (.iload_n 1, 1) := by decide +kernel
theorem dX11_readStone_16 : decode cX11_readStone 16 = .ok (.bipush (-9), 2) := by decide +kernel
theorem dX11_readStone_18 : decode cX11_readStone 18 = .ok (.if_icmp .ne 8, 3) := by decide +kernel
theorem dX11_readStone_21 : decode cX11_readStone 21 = .ok (.bipush (-9), 2) := by decide +kernel
theorem dX11_readStone_23 : decode cX11_readStone 23 = .ok (.goto 16, 3) := by decide +kernel
theorem dX11_readStone_26 : decode cX11_readStone 26 = .ok (.aload_n 0, 1) := by decide +kernel
theorem dX11_readStone_27 : decode cX11_readStone 27 = .ok (.iconst 0, 1) := by decide +kernel
theorem dX11_readStone_28 : decode cX11_readStone 28 = .ok (.aload_n 0, 1) := by decide +kernel
theorem dX11_readStone_29 : decode cX11_readStone 29 = .ok (.getfield 13, 3) := by decide +kernel
theorem dX11_readStone_32 : decode cX11_readStone 32 = .ok (.iconst 5, 1) := by decide +kernel
theorem dX11_readStone_33 : decode cX11_readStone 33 = .ok (.iaload, 1) := by decide +kernel
theorem dX11_readStone_34 : decode cX11_readStone 34 = .ok (.iconst 1, 1) := by decide +kernel
theorem dX11_readStone_35 : decode cX11_readStone 35 = .ok (.isub, 1) := by decide +kernel
theorem dX11_readStone_36 : decode cX11_readStone 36 = .ok (.invokevirtual 83, 3) := by decide +kernel
theorem dX11_readStone_39 : decode cX11_readStone 39 = .ok (.istore_n 2, 1) := by decide +kernel
theorem dX11_readStone_40 : decode cX11_readStone 40 = .ok (.iload_n 2, 1) := by decide +kernel
theorem dX11_readStone_41 : decode cX11_readStone 41 = .ok (.bipush (-9), 2) := by decide +kernel
theorem dX11_readStone_43 : decode cX11_readStone 43 = .ok (.if_icmp .ne 8, 3) := by decide +kernel
theorem dX11_readStone_46 : decode cX11_readStone 46 = .ok (.bipush (-9), 2) := by decide +kernel
theorem dX11_readStone_48 : decode cX11_readStone 48 = .ok (.goto 10, 3) := by decide +kernel
theorem dX11_readStone_51 : decode cX11_readStone 51 = .ok (.aload_n 0, 1) := by decide +kernel
theorem dX11_readStone_52 : decode cX11_readStone 52 = .ok (.iconst 0, 1) := by decide +kernel
theorem dX11_readStone_53 : decode cX11_readStone 53 = .ok (.bipush 9, 2) := by decide +kernel
theorem dX11_readStone_55 : decode cX11_readStone 55 = .ok (.invokevirtual 83, 3) := by decide +kernel
theorem dX11_readStone_58 : decode cX11_readStone 58 = .ok (.istore_n 3, 1) := by decide +kernel
theorem dX11_readStone_59 : decode cX11_readStone 59 = .ok (.iload_n 3, 1) := by decide +kernel
theorem dX11_readStone_60 : decode cX11_readStone 60 = .ok (.bipush (-9), 2) := by decide +kernel
theorem dX11_readStone_62 : decode cX11_readStone 62 = .ok (.if_icmp .ne 5, 3) := by decide +kernel
theorem dX11_readStone_65 : decode cX11_readStone 65 = .ok (.iconst 0, 1) := by decide +kernel
theorem dX11_readStone_66 : decode cX11_readStone 66 = .ok (.ireturn, 1) := by decide +kernel
theorem dX11_readStone_67 : decode cX11_readStone 67 = .ok (.aload_n 0, 1) := by decide +kernel
theorem dX11_readStone_68 : decode cX11_readStone 68 = .ok (.getfield 13, 3) := by decide +kernel
theorem dX11_readStone_71 : decode cX11_readStone 71 = .ok (.iload_n 1, 1) := by decide +kernel
theorem dX11_readStone_72 : decode cX11_readStone 72 = .ok (.iload_n 2, 1) := by decide +kernel
theorem dX11_readStone_73 : decode cX11_readStone 73 = .ok (.iload_n 3, 1) := by decide +kernel
theorem dX11_readStone_74 : decode cX11_readStone 74 = .ok (.invokestatic 54, 3) := by decide +kernel
theorem dX11_readStone_77 : decode cX11_readStone 77 = .ok (.istore 4, 2) := by decide +kernel
theorem dX11_readStone_79 : decode cX11_readStone 79 = .ok (.iload 4, 2) := by decide +kernel
theorem dX11_readStone_81 : decode cX11_readStone 81 = .ok (.ifCond .lt 7, 3) := by decide +kernel
theorem dX11_readStone_84 : decode cX11_readStone 84 = .ok (.iconst 1, 1) := by decide +kernel
theorem dX11_readStone_85 : decode cX11_readStone 85 = .ok (.goto 4, 3) := by decide +kernel
theorem dX11_readStone_88 : decode cX11_readStone 88 = .ok (.iconst 0, 1) := by decide +kernel
theorem dX11_readStone_89 : decode cX11_readStone 89 = .ok (.ireturn, 1) := by decide +kernel
theorem dX11_readPart_0 : decode cX11_readPart 0 = .ok (.aload_n 0, 1) := by decide +kernel
theorem dX11_readPart_1 : decode cX11_readPart 1 = .ok (.getfield 13, 3) := by decide +kernel
theorem dX11_readPart_4 : decode cX11_readPart 4 = .ok (.iconst 5, 1) := by decide +kernel
theorem dX11_readPart_5 : decode cX11_readPart 5 = .ok (.iaload, 1) := by decide +kernel
theorem dX11_readPart_6 : decode cX11_readPart 6 = .ok (.bipush 6, 2) := by decide +kernel
theorem dX11_readPart_8 : decode cX11_readPart 8 = .ok (.if_icmp .ge 17, 3) := by decide +kernel
theorem dX11_readPart_11 : decode cX11_readPart 11 = .ok (.aload_n 0, 1) := by decide +kernel
theorem dX11_readPart_12 : decode cX11_readPart 12 = .ok (.bipush 99, 2) := by decide +kernel
theorem dX11_readPart_14 : decode cX11_readPart 14 = .ok (.invokevirtual 87, 3) := by decide +kernel
theorem dX11_readPart_17 : decode cX11_readPart 17 = .ok (.ifCond .eq 8, 3) := by decide +kernel
theorem dX11_readPart_20 : decode cX11_readPart 20 = .ok (.aload_n 0, 1) := by decide +kernel
theorem dX11_readPart_21 : decode cX11_readPart 21 = .ok (.invokevirtual 90, 3) := by decide +kernel
theorem dX11_readPart_24 : decode cX11_readPart 24 = .ok (.ireturn, 1) := by decide +kernel
theorem dX11_readPart_25 : decode cX11_readPart 25 = .ok (.aload_n 0, 1) := by decide +kernel
theorem dX11_readPart_26 : decode cX11_readPart 26 = .ok (.getfield 13, 3) := by decide +kernel
theorem dX11_readPart_29 : decode cX11_readPart 29 = .ok (.bipush 6, 2) := by decide +kernel
theorem dX11_readPart_31 : decode cX11_readPart 31 = .ok (.iaload, 1) := by decide +kernel
theorem dX11_readPart_32 : decode cX11_readPart 32 = .ok (.bipush 6, 2) := by decide +kernel
theorem dX11_readPart_34 : decode cX11_readPart 34 = .ok (.if_icmp .ge 17, 3) := by decide +kernel
theorem dX11_readPart_37 : decode cX11_readPart 37 = .ok (.aload_n 0, 1) := by decide +kernel
theorem dX11_readPart_38 : decode cX11_readPart 38 = .ok (.bipush 109, 2) := by decide +kernel
theorem dX11_readPart_40 : decode cX11_readPart 40 = .ok (.invokevirtual 87, 3) := by decide +kernel
theorem dX11_readPart_43 : decode cX11_readPart 43 = .ok (.ifCond .eq 8, 3) := by decide +kernel
theorem dX11_readPart_46 : decode cX11_readPart 46 = .ok (.aload_n 0, 1) := by decide +kernel
theorem dX11_readPart_47 : decode cX11_readPart 47 = .ok (.invokevirtual 94, 3) := by decide +kernel
theorem dX11_readPart_50 : decode cX11_readPart 50 = .ok (.ireturn, 1) := by decide +kernel
theorem dX11_readPart_51 : decode cX11_readPart 51 = .ok (.aload_n 0, 1) := by decide +kernel
theorem dX11_readPart_52 : decode cX11_readPart 52 = .ok (.getfield 13, 3) := by decide +kernel
theorem dX11_readPart_55 : decode cX11_readPart 55 = .ok (.bipush 6, 2) := by decide +kernel
theorem dX11_readPart_57 : decode cX11_readPart 57 = .ok (.iaload, 1) := by decide +kernel
theorem dX11_readPart_58 : decode cX11_readPart 58 = .ok (.ifCond .le 38, 3) := by decide +kernel
theorem dX11_readPart_61 : decode cX11_readPart 61 = .ok (.aload_n 0, 1) := by decide +kernel
theorem dX11_readPart_62 : decode cX11_readPart 62 = .ok (.getfield 13, 3) := by decide +kernel
theorem dX11_readPart_65 : decode cX11_readPart 65 = .ok (.iconst 5, 1) := by decide +kernel
theorem dX11_readPart_66 : decode cX11_readPart 66 = .ok (.iaload, 1) := by decide +kernel
theorem dX11_readPart_67 : decode cX11_readPart 67 = .ok (.ifCond .le 29, 3) := by decide +kernel
theorem dX11_readPart_70 : decode cX11_readPart 70 = .ok (.aload_n 0, 1) := by decide +kernel
theorem dX11_readPart_71 : decode cX11_readPart 71 = .ok (.getfield 13, 3) := by decide +kernel
theorem dX11_readPart_74 : decode cX11_readPart 74 = .ok (.bipush 7, 2) := by decide +kernel
theorem dX11_readPart_76 : decode cX11_readPart 76 = .ok (.iaload, 1) := by decide +kernel
theorem dX11_readPart_77 : decode cX11_readPart 77 = .ok (.bipush 24, 2) := by decide +kernel
theorem dX11_readPart_79 : decode cX11_readPart 79 = .ok (.if_icmp .ge 17, 3) := by decide +kernel
theorem dX11_readPart_82 : decode cX11_readPart 82 = .ok (.aload_n 0, 1) := by decide +kernel
theorem dX11_readPart_83 : decode cX11_readPart 83 = .ok (.bipush 115, 2) := by decide +kernel
theorem dX11_readPart_85 : decode cX11_readPart 85 = .ok (.invokevirtual 87, 3) := by decide +kernel
theorem dX11_readPart_88 : decode cX11_readPart 88 = .ok (.ifCond .eq 8, 3) := by decide +kernel
theorem dX11_readPart_91 : decode cX11_readPart 91 = .ok (.aload_n 0, 1) := by decide +kernel
theorem dX11_readPart_92 : decode cX11_readPart 92 = .ok (.invokevirtual 97, 3) := by decide +kernel
theorem dX11_readPart_95 : decode cX11_readPart 95 = .ok (.ireturn, 1) := by decide +kernel
theorem dX11_readPart_96 : decode cX11_readPart 96 = .ok (.aload_n 0, 1) := by decide +kernel
theorem dX11_readPart_97 : decode cX11_readPart 97 = .ok (.getfield 100, 3) := by decide +kernel
theorem dX11_readPart_100 : decode cX11_readPart 100 = .ok (.ifCond .ne 19, 3) := by decide +kernel
theorem dX11_readPart_103 : decode cX11_readPart 103 = .ok (.aload_n 0, 1) := by decide +kernel
theorem dX11_readPart_104 : decode cX11_readPart 104 = .ok (.bipush 102, 2) := by decide +kernel
theorem dX11_readPart_106 : decode cX11_readPart 106 = .ok (.invokevirtual 87, 3) := by decide +kernel
theorem dX11_readPart_109 : decode cX11_readPart 109 = .ok (.ifCond .eq 10, 3) := by decide +kernel
theorem dX11_readPart_112 : decode cX11_readPart 112 = .ok (.aload_n 0, 1) := by decide +kernel
theorem dX11_readPart_113 : decode cX11_readPart 113 = .ok (.iconst 1, 1) := by decide +kernel
theorem dX11_readPart_114 : decode cX11_readPart 114 = .ok (.putfield 100, 3) := by decide +kernel
theorem dX11_readPart_117 : decode cX11_readPart 117 = .ok (.iconst 1, 1) := by decide +kernel
theorem dX11_readPart_118 : decode cX11_readPart 118 = .ok (.ireturn, 1) := by decide +kernel
theorem dX11_readPart_119 : decode cX11_readPart 119 = .ok (.iconst 0, 1) := by decide +kernel
theorem dX11_readPart_120 : decode cX11_readPart 120 = .ok (.ireturn, 1) := by decide +kernel
theorem dX11_readAll_0 : decode cX11_readAll 0 = .ok (.aload_n 0, 1) := by decide +kernel
theorem dX11_readAll_1 : decode cX11_readAll 1 = .ok (.iconst 0, 1) := by decide +kernel
theorem dX11_readAll_2 : decode cX11_readAll 2 = .ok (.putfield 80, 3) := by decide +kernel
theorem dX11_readAll_5 : decode cX11_readAll 5 = .ok (.aload_n 0, 1) := by decide +kernel
theorem dX11_readAll_6 : decode cX11_readAll 6 = .ok (.iconst 0, 1) := by decide +kernel
theorem dX11_readAll_7 : decode cX11_readAll 7 = .ok (.putfield 100, 3) := by decide +kernel
theorem dX11_readAll_10 : decode cX11_readAll 10 = .ok (.iconst 0, 1) := by decide +kernel
theorem dX11_readAll_11 : decode cX11_readAll 11 = .ok (.istore_n 1, 1) := by decide +kernel
theorem dX11_readAll_12 : decode cX11_readAll 12 = .ok (.iload_n 1, 1) := by decide +kernel
theorem dX11_readAll_13 : decode cX11_readAll 13 = .ok (.sipush 194, 3) := by decide +kernel
theorem dX11_readAll_16 : decode cX11_readAll 16 = .ok (.if_icmp .ge 16, 3) := by decide +kernel
theorem dX11_readAll_19 : decode cX11_readAll 19 = .ok (.aload_n 0, 1) := by decide +kernel
theorem dX11_readAll_20 : decode cX11_readAll 20 = .ok (.getfield 13, 3) := by decide +kernel
theorem dX11_readAll_23 : decode cX11_readAll 23 = .ok (.iload_n 1, 1) := by decide +kernel
theorem dX11_readAll_24 : decode cX11_readAll 24 = .ok (.iconst 0, 1) := by decide +kernel
theorem dX11_readAll_25 : decode cX11_readAll 25 = .ok (.iastore, 1) := by decide +kernel
theorem dX11_readAll_26 : decode cX11_readAll 26 = .ok (.iinc 1 1, 3) := by decide +kernel
theorem dX11_readAll_29 : decode cX11_readAll 29 = .ok (.goto (-17), 3) := by decide +kernel
theorem dX11_readAll_32 : decode cX11_readAll 32 = .ok (.aload_n 0, 1) := by decide +kernel
theorem dX11_readAll_33 : decode cX11_readAll 33 = .ok (.bipush 76, 2) := by decide +kernel
theorem dX11_readAll_35 : decode cX11_readAll 35 = .ok (.invokevirtual 87, 3) := by decide +kernel
theorem dX11_readAll_38 : decode cX11_readAll 38 = .ok (.ifCond .ne 5, 3) := by decide +kernel
theorem dX11_readAll_41 : decode cX11_readAll 41 = .ok (.iconst 0, 1) := by decide +kernel
theorem dX11_readAll_42 : decode cX11_readAll 42 = .ok (.ireturn, 1) := by decide +kernel
theorem dX11_readAll_43 : decode cX11_readAll 43 = .ok (.aload_n 0, 1) := by decide +kernel
theorem dX11_readAll_44 : decode cX11_readAll 44 = .ok (.getfield 13, 3) := by decide +kernel
theorem dX11_readAll_47 : decode cX11_readAll 47 = .ok (.iconst 0, 1) := by decide +kernel
theorem dX11_readAll_48 : decode cX11_readAll 48 = .ok (.aload_n 0, 1) := by decide +kernel
theorem dX11_readAll_49 : decode cX11_readAll 49 = .ok (.iconst 0, 1) := by decide +kernel
theorem dX11_readAll_50 : decode cX11_readAll 50 = .ok (.bipush 9, 2) := by decide +kernel
theorem dX11_readAll_52 : decode cX11_readAll 52 = .ok (.invokevirtual 83, 3) := by decide +kernel
theorem dX11_readAll_55 : decode cX11_readAll 55 = .ok (.iastore, 1) := by decide +kernel
theorem dX11_readAll_56 : decode cX11_readAll 56 = .ok (.aload_n 0, 1) := by decide +kernel
theorem dX11_readAll_57 : decode cX11_readAll 57 = .ok (.getfield 13, 3) := by decide +kernel
theorem dX11_readAll_60 : decode cX11_readAll 60 = .ok (.iconst 0, 1) := by decide +kernel
theorem dX11_readAll_61 : decode cX11_readAll 61 = .ok (.iaload, 1) := by decide +kernel
theorem dX11_readAll_62 : decode cX11_readAll 62 = .ok (.bipush (-9), 2) := by decide +kernel
theorem dX11_readAll_64 : decode cX11_readAll 64 = .ok (.if_icmp .ne 5, 3) := by decide +kernel
theorem dX11_readAll_67 : decode cX11_readAll 67 = .ok (.iconst 0, 1) := by decide +kernel
theorem dX11_readAll_68 : decode cX11_readAll 68 = .ok (.ireturn, 1) := by decide +kernel
theorem dX11_readAll_69 : decode cX11_readAll 69 = .ok (.aload_n 0, 1) := by decide +kernel
theorem dX11_readAll_70 : decode cX11_readAll 70 = .ok (.getfield 80, 3) := by decide +kernel
theorem dX11_readAll_73 : decode cX11_readAll 73 = .ok (.aload_n 0, 1) := by decide +kernel
theorem dX11_readAll_74 : decode cX11_readAll 74 = .ok (.getfield 73, 3) := by decide +kernel
theorem dX11_readAll_77 : decode cX11_readAll 77 = .ok (.if_icmp .ge 12, 3) := by decide +kernel
theorem dX11_readAll_80 : decode cX11_readAll 80 = .ok (.aload_n 0, 1) := by decide +kernel
theorem dX11_readAll_81 : decode cX11_readAll 81 = .ok (.invokevirtual 104, 3) := by decide +kernel
theorem dX11_readAll_84 : decode cX11_readAll 84 = .ok (.ifCond .ne (-15), 3) := by decide +kernel
theorem dX11_readAll_87 : decode cX11_readAll 87 = .ok (.iconst 0, 1) := by decide +kernel
theorem dX11_readAll_88 : decode cX11_readAll 88 = .ok (.ireturn, 1) := by decide +kernel
theorem dX11_readAll_89 : decode cX11_readAll 89 = .ok (.iconst 1, 1) := by decide +kernel
theorem dX11_readAll_90 : decode cX11_readAll 90 = .ok (.ireturn, 1) := by decide +kernel
theorem dX11_errorPosition_0 : decode cX11_errorPosition 0 = .ok (.aload_n 0, 1) := by decide +kernel
theorem dX11_errorPosition_1 : decode cX11_errorPosition 1 = .ok (.iconst 0, 1) := by decide +kernel
theorem dX11_errorPosition_2 : decode cX11_errorPosition 2 = .ok (.putfield 35, 3) := by decide +kernel
theorem dX11_errorPosition_5 : decode cX11_errorPosition 5 = .ok (.aload_n 0, 1) := by decide +kernel
theorem dX11_errorPosition_6 : decode cX11_errorPosition 6 = .ok (.invokevirtual 107, 3) := by decide +kernel
theorem dX11_errorPosition_9 : decode cX11_errorPosition 9 = .ok (.ifCond .eq 8, 3) := by decide +kernel
theorem dX11_errorPosition_12 : decode cX11_errorPosition 12 = .ok (.bipush (-9), 2) := by decide +kernel
theorem dX11_errorPosition_14 : decode cX11_errorPosition 14 = .ok (.goto 7, 3) := by decide +kernel
theorem dX11_errorPosition_17 : decode cX11_errorPosition 17 = .ok (.aload_n 0, 1) := by decide +kernel
theorem dX11_errorPosition_18 : decode cX11_errorPosition 18 = .ok (.getfield 80, 3) := by decide +kernel
theorem dX11_errorPosition_21 : decode cX11_errorPosition 21 = .ok (.ireturn, 1) := by decide +kernel
theorem dX11_load_0 : decode cX11_load 0 = .ok (.aload_n 0, 1) := by decide +kernel
theorem dX11_load_1 : decode cX11_load 1 = .ok (.aload_n 0, 1) := by decide +kernel
theorem dX11_load_2 : decode cX11_load 2 = .ok (.invokevirtual 107, 3) := by decide +kernel
theorem dX11_load_5 : decode cX11_load 5 = .ok (.ifCond .eq 7, 3) := by decide +kernel
theorem dX11_load_8 : decode cX11_load 8 = .ok (.iconst 0, 1) := by decide +kernel
theorem dX11_load_9 : decode cX11_load 9 = .ok (.goto 4, 3) := by decide +kernel
theorem dX11_load_12 : decode cX11_load 12 = .ok (.iconst 1, 1) := by decide +kernel
theorem dX11_load_13 : decode cX11_load 13 = .ok (.invokevirtual 76, 3) := by decide +kernel
theorem dX11_load_16 : decode cX11_load 16 = .ok (.ifCond .eq 5, 3) := by decide +kernel
theorem dX11_load_19 : decode cX11_load 19 = .ok (.iconst 0, 1) := by decide +kernel
theorem dX11_load_20 : decode cX11_load 20 = .ok (.ireturn, 1) := by decide +kernel
theorem dX11_load_21 : decode cX11_load 21 = .ok (.aload_n 0, 1) := by decide +kernel
theorem dX11_load_22 : decode cX11_load 22 = .ok (.getfield 13, 3) := by decide +kernel
theorem dX11_load_25 : decode cX11_load 25 = .ok (.iconst 0, 1) := by decide +kernel
theorem dX11_load_26 : decode cX11_load 26 = .ok (.aload_n 0, 1) := by decide +kernel
theorem dX11_load_27 : decode cX11_load 27 = .ok (.getfield 16, 3) := by decide +kernel
theorem dX11_load_30 : decode cX11_load 30 = .ok (.iconst 0, 1) := by decide +kernel
theorem dX11_load_31 : decode cX11_load 31 = .ok (.invokestatic 110, 3) := by decide +kernel
theorem dX11_load_34 : decode cX11_load 34 = .ok (.aload_n 0, 1) := by decide +kernel
theorem dX11_load_35 : decode cX11_load 35 = .ok (.getfield 16, 3) := by decide +kernel
theorem dX11_load_38 : decode cX11_load 38 = .ok (.iconst 2, 1) := by decide +kernel
theorem dX11_load_39 : decode cX11_load 39 = .ok (.aload_n 0, 1) := by decide +kernel
theorem dX11_load_40 : decode cX11_load 40 = .ok (.getfield 100, 3) := by decide +kernel
theorem dX11_load_43 : decode cX11_load 43 = .ok (.ifCond .eq 7, 3) := by decide +kernel
theorem dX11_load_46 : decode cX11_load 46 = .ok (.iconst 1, 1) := by decide +kernel
theorem dX11_load_47 : decode cX11_load 47 = .ok (.goto 4, 3) := by decide +kernel
theorem dX11_load_50 : decode cX11_load 50 = .ok (.iconst 0, 1) := by decide +kernel
theorem dX11_load_51 : decode cX11_load 51 = .ok (.iastore, 1) := by decide +kernel
theorem dX11_load_52 : decode cX11_load 52 = .ok (.iconst 0, 1) := by decide +kernel
theorem dX11_load_53 : decode cX11_load 53 = .ok (.istore_n 1, 1) := by decide +kernel
theorem dX11_load_54 : decode cX11_load 54 = .ok (.iload_n 1, 1) := by decide +kernel
theorem dX11_load_55 : decode cX11_load 55 = .ok (.aload_n 0, 1) := by decide +kernel
theorem dX11_load_56 : decode cX11_load 56 = .ok (.getfield 16, 3) := by decide +kernel
theorem dX11_load_59 : decode cX11_load 59 = .ok (.bipush 6, 2) := by decide +kernel
theorem dX11_load_61 : decode cX11_load 61 = .ok (.iaload, 1) := by decide +kernel
theorem dX11_load_62 : decode cX11_load 62 = .ok (.if_icmp .ge 30, 3) := by decide +kernel
theorem dX11_load_65 : decode cX11_load 65 = .ok (.aload_n 0, 1) := by decide +kernel
theorem dX11_load_66 : decode cX11_load 66 = .ok (.getfield 100, 3) := by decide +kernel
theorem dX11_load_69 : decode cX11_load 69 = .ok (.ifCond .eq 23, 3) := by decide +kernel
theorem dX11_load_72 : decode cX11_load 72 = .ok (.aload_n 0, 1) := by decide +kernel
theorem dX11_load_73 : decode cX11_load 73 = .ok (.getfield 16, 3) := by decide +kernel
theorem dX11_load_76 : decode cX11_load 76 = .ok (.bipush 26, 2) := by decide +kernel
theorem dX11_load_78 : decode cX11_load 78 = .ok (.iconst 4, 1) := by decide +kernel
theorem dX11_load_79 : decode cX11_load 79 = .ok (.iload_n 1, 1) := by decide +kernel
theorem dX11_load_80 : decode cX11_load 80 = .ok (.imul, 1) := by decide +kernel
theorem dX11_load_81 : decode cX11_load 81 = .ok (.iadd, 1) := by decide +kernel
theorem dX11_load_82 : decode cX11_load 82 = .ok (.iconst 2, 1) := by decide +kernel
theorem dX11_load_83 : decode cX11_load 83 = .ok (.iadd, 1) := by decide +kernel
theorem dX11_load_84 : decode cX11_load 84 = .ok (.iconst 0, 1) := by decide +kernel
theorem dX11_load_85 : decode cX11_load 85 = .ok (.iastore, 1) := by decide +kernel
theorem dX11_load_86 : decode cX11_load 86 = .ok (.iinc 1 1, 3) := by decide +kernel
theorem dX11_load_89 : decode cX11_load 89 = .ok (.goto (-35), 3) := by decide +kernel
theorem dX11_load_92 : decode cX11_load 92 = .ok (.aload_n 0, 1) := by decide +kernel
theorem dX11_load_93 : decode cX11_load 93 = .ok (.iconst 0, 1) := by decide +kernel
theorem dX11_load_94 : decode cX11_load 94 = .ok (.putfield 114, 3) := by decide +kernel
theorem dX11_load_97 : decode cX11_load 97 = .ok (.aload_n 0, 1) := by decide +kernel
theorem dX11_load_98 : decode cX11_load 98 = .ok (.getfield 28, 3) := by decide +kernel
theorem dX11_load_101 : decode cX11_load 101 = .ok (.iconst 0, 1) := by decide +kernel
theorem dX11_load_102 : decode cX11_load 102 = .ok (.iconst 0, 1) := by decide +kernel
theorem dX11_load_103 : decode cX11_load 103 = .ok (.bastore, 1) := by decide +kernel
theorem dX11_load_104 : decode cX11_load 104 = .ok (.aload_n 0, 1) := by decide +kernel
theorem dX11_load_105 : decode cX11_load 105 = .ok (.getfield 28, 3) := by decide +kernel
theorem dX11_load_108 : decode cX11_load 108 = .ok (.iconst 1, 1) := by decide +kernel
theorem dX11_load_109 : decode cX11_load 109 = .ok (.iconst 0, 1) := by decide +kernel
theorem dX11_load_110 : decode cX11_load 110 = .ok (.bastore, 1) := by decide +kernel
theorem dX11_load_111 : decode cX11_load 111 = .ok (.aload_n 0, 1) := by decide +kernel
theorem dX11_load_112 : decode cX11_load 112 = .ok (.getfield 16, 3) := by decide +kernel
theorem dX11_load_115 : decode cX11_load 115 = .ok (.bipush 7, 2) := by decide +kernel
theorem dX11_load_117 : decode cX11_load 117 = .ok (.iaload, 1) := by decide +kernel
theorem dX11_load_118 : decode cX11_load 118 = .ok (.ireturn, 1) := by decide +kernel
theorem dX11_about_0 : decode cX11_about 0 = .ok (.aload_n 0, 1) := by decide +kernel
theorem dX11_about_1 : decode cX11_about 1 = .ok (.iload_n 1, 1) := by decide +kernel
theorem dX11_about_2 : decode cX11_about 2 = .ok (.i2l, 1) := by decide +kernel
theorem dX11_about_3 : decode cX11_about 3 = .ok (.lconst 0, 1) := by decide +kernel
theorem dX11_about_4 : decode cX11_about 4 = .ok (.ldc2_w 117, 3) := by decide +kernel
theorem dX11_about_7 : decode cX11_about 7 = .ok (.invokestatic 39, 3) := by decide +kernel
theorem dX11_about_10 : decode cX11_about 10 = .ok (.ifCond .eq 7, 3) := by decide +kernel
theorem dX11_about_13 : decode cX11_about 13 = .ok (.iconst 0, 1) := by decide +kernel
theorem dX11_about_14 : decode cX11_about 14 = .ok (.goto 4, 3) := by decide +kernel
theorem dX11_about_17 : decode cX11_about 17 = .ok (.iconst 1, 1) := by decide +kernel
theorem dX11_about_18 : decode cX11_about 18 = .ok (.invokevirtual 76, 3) := by decide +kernel
theorem dX11_about_21 : decode cX11_about 21 = .ok (.ifCond .eq 5, 3) := by decide +kernel
theorem dX11_about_24 : decode cX11_about 24 = .ok (.iconst 0, 1) := by decide +kernel
theorem dX11_about_25 : decode cX11_about 25 = .ok (.ireturn, 1) := by decide +kernel
theorem dX11_about_26 : decode cX11_about 26 = .ok (.iload_n 1, 1) := by decide +kernel
theorem dX11_about_27 : decode cX11_about 27 = .ok (.tableswitch 175 0 10 #[57, 64, 72, 80, 87, 94, 101, 142, 151, 160, 168], 57) := by decide +kernel
theorem dX11_about_84 : decode cX11_about 84 = .ok (.aload_n 0, 1) := by decide +kernel
theorem dX11_about_85 : decode cX11_about 85 = .ok (.getfield 16, 3) := by decide +kernel
theorem dX11_about_88 : decode cX11_about 88 = .ok (.iconst 5, 1) := by decide +kernel
theorem dX11_about_89 : decode cX11_about 89 = .ok (.iaload, 1) := by decide +kernel
theorem dX11_about_90 : decode cX11_about 90 = .ok (.ireturn, 1) := by decide +kernel
theorem dX11_about_91 : decode cX11_about 91 = .ok (.aload_n 0, 1) := by decide +kernel
theorem dX11_about_92 : decode cX11_about 92 = .ok (.getfield 16, 3) := by decide +kernel
theorem dX11_about_95 : decode cX11_about 95 = .ok (.bipush 6, 2) := by decide +kernel
theorem dX11_about_97 : decode cX11_about 97 = .ok (.iaload, 1) := by decide +kernel
theorem dX11_about_98 : decode cX11_about 98 = .ok (.ireturn, 1) := by decide +kernel
theorem dX11_about_99 : decode cX11_about 99 = .ok (.aload_n 0, 1) := by decide +kernel
theorem dX11_about_100 : decode cX11_about 100 = .ok (.getfield 16, 3) := by decide +kernel
theorem dX11_about_103 : decode cX11_about 103 = .ok (.bipush 7, 2) := by decide +kernel
theorem dX11_about_105 : decode cX11_about 105 = .ok (.iaload, 1) := by decide +kernel
theorem dX11_about_106 : decode cX11_about 106 = .ok (.ireturn, 1) := by decide +kernel
theorem dX11_about_107 : decode cX11_about 107 = .ok (.aload_n 0, 1) := by decide +kernel
theorem dX11_about_108 : decode cX11_about 108 = .ok (.getfield 16, 3) := by decide +kernel
theorem dX11_about_111 : decode cX11_about 111 = .ok (.iconst 1, 1) := by decide +kernel
theorem dX11_about_112 : decode cX11_about 112 = .ok (.iaload, 1) := by decide +kernel
theorem dX11_about_113 : decode cX11_about 113 = .ok (.ireturn, 1) := by decide +kernel
theorem dX11_about_114 : decode cX11_about 114 = .ok (.aload_n 0, 1) := by decide +kernel
theorem dX11_about_115 : decode cX11_about 115 = .ok (.getfield 16, 3) := by decide +kernel
theorem dX11_about_118 : decode cX11_about 118 = .ok (.iconst 2, 1) := by decide +kernel
theorem dX11_about_119 : decode cX11_about 119 = .ok (.iaload, 1) := by decide +kernel
theorem dX11_about_120 : decode cX11_about 120 = .ok (.ireturn, 1) := by decide +kernel
theorem dX11_about_121 : decode cX11_about 121 = .ok (.aload_n 0, 1) := by decide +kernel
theorem dX11_about_122 : decode cX11_about 122 = .ok (.getfield 16, 3) := by decide +kernel
theorem dX11_about_125 : decode cX11_about 125 = .ok (.iconst 0, 1) := by decide +kernel
theorem dX11_about_126 : decode cX11_about 126 = .ok (.iaload, 1) := by decide +kernel
theorem dX11_about_127 : decode cX11_about 127 = .ok (.ireturn, 1) := by decide +kernel
theorem dX11_about_128 : decode cX11_about 128 = .ok (.iconst 0, 1) := by decide +kernel
theorem dX11_about_129 : decode cX11_about 129 = .ok (.istore_n 2, 1) := by decide +kernel
theorem dX11_about_130 : decode cX11_about 130 = .ok (.iconst 0, 1) := by decide +kernel
theorem dX11_about_131 : decode cX11_about 131 = .ok (.istore_n 3, 1) := by decide +kernel
theorem dX11_about_132 : decode cX11_about 132 = .ok (.iload_n 3, 1) := by decide +kernel
theorem dX11_about_133 : decode cX11_about 133 = .ok (.aload_n 0, 1) := by decide +kernel
theorem dX11_about_134 : decode cX11_about 134 = .ok (.getfield 16, 3) := by decide +kernel
theorem dX11_about_137 : decode cX11_about 137 = .ok (.iconst 5, 1) := by decide +kernel
theorem dX11_about_138 : decode cX11_about 138 = .ok (.iaload, 1) := by decide +kernel
theorem dX11_about_139 : decode cX11_about 139 = .ok (.if_icmp .ge 28, 3) := by decide +kernel
theorem dX11_about_142 : decode cX11_about 142 = .ok (.iload_n 2, 1) := by decide +kernel
theorem dX11_about_143 : decode cX11_about 143 = .ok (.aload_n 0, 1) := by decide +kernel
theorem dX11_about_144 : decode cX11_about 144 = .ok (.getfield 16, 3) := by decide +kernel
theorem dX11_about_147 : decode cX11_about 147 = .ok (.iload_n 3, 1) := by decide +kernel
theorem dX11_about_148 : decode cX11_about 148 = .ok (.invokestatic 64, 3) := by decide +kernel
theorem dX11_about_151 : decode cX11_about 151 = .ok (.ifCond .eq 7, 3) := by decide +kernel
theorem dX11_about_154 : decode cX11_about 154 = .ok (.iconst 1, 1) := by decide +kernel
theorem dX11_about_155 : decode cX11_about 155 = .ok (.goto 4, 3) := by decide +kernel
theorem dX11_about_158 : decode cX11_about 158 = .ok (.iconst 0, 1) := by decide +kernel
theorem dX11_about_159 : decode cX11_about 159 = .ok (.iadd, 1) := by decide +kernel
theorem dX11_about_160 : decode cX11_about 160 = .ok (.istore_n 2, 1) := by decide +kernel
theorem dX11_about_161 : decode cX11_about 161 = .ok (.iinc 3 1, 3) := by decide +kernel
theorem dX11_about_164 : decode cX11_about 164 = .ok (.goto (-32), 3) := by decide +kernel
theorem dX11_about_167 : decode cX11_about 167 = .ok (.iload_n 2, 1) := by decide +kernel
theorem dX11_about_168 : decode cX11_about 168 = .ok (.ireturn, 1) := by decide +kernel
theorem dX11_about_169 : decode cX11_about 169 = .ok (.aload_n 0, 1) := by decide +kernel
theorem dX11_about_170 : decode cX11_about 170 = .ok (.getfield 16, 3) := by decide +kernel
theorem dX11_about_173 : decode cX11_about 173 = .ok (.iconst 3, 1) := by decide +kernel
theorem dX11_about_174 : decode cX11_about 174 = .ok (.invokestatic 119, 3) := by decide +kernel
theorem dX11_about_177 : decode cX11_about 177 = .ok (.ireturn, 1) := by decide +kernel
theorem dX11_about_178 : decode cX11_about 178 = .ok (.aload_n 0, 1) := by decide +kernel
theorem dX11_about_179 : decode cX11_about 179 = .ok (.getfield 16, 3) := by decide +kernel
theorem dX11_about_182 : decode cX11_about 182 = .ok (.iconst 4, 1) := by decide +kernel
theorem dX11_about_183 : decode cX11_about 183 = .ok (.invokestatic 119, 3) := by decide +kernel
theorem dX11_about_186 : decode cX11_about 186 = .ok (.ireturn, 1) := by decide +kernel
theorem dX11_about_187 : decode cX11_about 187 = .ok (.aload_n 0, 1) := by decide +kernel
theorem dX11_about_188 : decode cX11_about 188 = .ok (.getfield 16, 3) := by decide +kernel
theorem dX11_about_191 : decode cX11_about 191 = .ok (.invokestatic 122, 3) := by decide +kernel
theorem dX11_about_194 : decode cX11_about 194 = .ok (.ireturn, 1) := by decide +kernel
theorem dX11_about_195 : decode cX11_about 195 = .ok (.aload_n 0, 1) := by decide +kernel
theorem dX11_about_196 : decode cX11_about 196 = .ok (.getfield 16, 3) := by decide +kernel
theorem dX11_about_199 : decode cX11_about 199 = .ok (.iconst 3, 1) := by decide +kernel
theorem dX11_about_200 : decode cX11_about 200 = .ok (.iaload, 1) := by decide +kernel
theorem dX11_about_201 : decode cX11_about 201 = .ok (.ireturn, 1) := by decide +kernel
theorem dX11_about_202 : decode cX11_about 202 = .ok (.aload_n 0, 1) := by decide +kernel
theorem dX11_about_203 : decode cX11_about 203 = .ok (.getfield 16, 3) := by decide +kernel
theorem dX11_about_206 : decode cX11_about 206 = .ok (.iconst 4, 1) := by decide +kernel
theorem dX11_about_207 : decode cX11_about 207 = .ok (.iaload, 1) := by decide +kernel
theorem dX11_about_208 : decode cX11_about 208 = .ok (.ireturn, 1) := by decide +kernel
theorem dX11_course_0 : decode cX11_course 0 = .ok (.aload_n 0, 1) := by decide +kernel
theorem dX11_course_1 : decode cX11_course 1 = .ok (.aload_n 0, 1) := by decide +kernel
theorem dX11_course_2 : decode cX11_course 2 = .ok (.getfield 16, 3) := by decide +kernel
theorem dX11_course_5 : decode cX11_course 5 = .ok (.iload_n 1, 1) := by decide +kernel
theorem dX11_course_6 : decode cX11_course 6 = .ok (.invokestatic 126, 3) := by decide +kernel
theorem dX11_course_9 : decode cX11_course 9 = .ok (.ifCond .ne 7, 3) := by decide +kernel
theorem dX11_course_12 : decode cX11_course 12 = .ok (.iconst 1, 1) := by decide +kernel
theorem dX11_course_13 : decode cX11_course 13 = .ok (.goto 20, 3) := by decide +kernel
theorem dX11_course_16 : decode cX11_course 16 = .ok (.iload_n 2, 1) := by decide +kernel
theorem dX11_course_17 : decode cX11_course 17 = .ok (.i2l, 1) := by decide +kernel
theorem dX11_course_18 : decode cX11_course 18 = .ok (.lconst 0, 1) := by decide +kernel
theorem dX11_course_19 : decode cX11_course 19 = .ok (.ldc2_w 129, 3) := by decide +kernel
theorem dX11_course_22 : decode cX11_course 22 = .ok (.invokestatic 39, 3) := by decide +kernel
theorem dX11_course_25 : decode cX11_course 25 = .ok (.ifCond .ne 7, 3) := by decide +kernel
theorem dX11_course_28 : decode cX11_course 28 = .ok (.iconst 2, 1) := by decide +kernel
theorem dX11_course_29 : decode cX11_course 29 = .ok (.goto 4, 3) := by decide +kernel
theorem dX11_course_32 : decode cX11_course 32 = .ok (.iconst 0, 1) := by decide +kernel
theorem dX11_course_33 : decode cX11_course 33 = .ok (.invokevirtual 76, 3) := by decide +kernel
theorem dX11_course_36 : decode cX11_course 36 = .ok (.ifCond .eq 5, 3) := by decide +kernel
theorem dX11_course_39 : decode cX11_course 39 = .ok (.iconst 0, 1) := by decide +kernel
theorem dX11_course_40 : decode cX11_course 40 = .ok (.ireturn, 1) := by decide +kernel
theorem dX11_course_41 : decode cX11_course 41 = .ok (.iload_n 2, 1) := by decide +kernel
theorem dX11_course_42 : decode cX11_course 42 = .ok (.tableswitch 69 3 6 #[30, 40, 49, 59], 30) := by decide +kernel
theorem dX11_course_72 : decode cX11_course 72 = .ok (.aload_n 0, 1) := by decide +kernel
theorem dX11_course_73 : decode cX11_course 73 = .ok (.getfield 16, 3) := by decide +kernel
theorem dX11_course_76 : decode cX11_course 76 = .ok (.iload_n 1, 1) := by decide +kernel
theorem dX11_course_77 : decode cX11_course 77 = .ok (.iconst 3, 1) := by decide +kernel
theorem dX11_course_78 : decode cX11_course 78 = .ok (.invokestatic 43, 3) := by decide +kernel
theorem dX11_course_81 : decode cX11_course 81 = .ok (.ireturn, 1) := by decide +kernel
theorem dX11_course_82 : decode cX11_course 82 = .ok (.aload_n 0, 1) := by decide +kernel
theorem dX11_course_83 : decode cX11_course 83 = .ok (.getfield 16, 3) := by decide +kernel
theorem dX11_course_86 : decode cX11_course 86 = .ok (.iload_n 1, 1) := by decide +kernel
theorem dX11_course_87 : decode cX11_course 87 = .ok (.invokestatic 68, 3) := by decide +kernel
theorem dX11_course_90 : decode cX11_course 90 = .ok (.ireturn, 1) := by decide +kernel
theorem dX11_course_91 : decode cX11_course 91 = .ok (.aload_n 0, 1) := by decide +kernel
theorem dX11_course_92 : decode cX11_course 92 = .ok (.getfield 16, 3) := by decide +kernel
theorem dX11_course_95 : decode cX11_course 95 = .ok (.iload_n 1, 1) := by decide +kernel
theorem dX11_course_96 : decode cX11_course 96 = .ok (.iconst 0, 1) := by decide +kernel
theorem dX11_course_97 : decode cX11_course 97 = .ok (.invokestatic 43, 3) := by decide +kernel
theorem dX11_course_100 : decode cX11_course 100 = .ok (.ireturn, 1) := by decide +kernel
theorem dX11_course_101 : decode cX11_course 101 = .ok (.aload_n 0, 1) := by decide +kernel
theorem dX11_course_102 : decode cX11_course 102 = .ok (.getfield 16, 3) := by decide +kernel
theorem dX11_course_105 : decode cX11_course 105 = .ok (.iload_n 1, 1) := by decide +kernel
theorem dX11_course_106 : decode cX11_course 106 = .ok (.iconst 2, 1) := by decide +kernel
theorem dX11_course_107 : decode cX11_course 107 = .ok (.invokestatic 43, 3) := by decide +kernel
theorem dX11_course_110 : decode cX11_course 110 = .ok (.ireturn, 1) := by decide +kernel
theorem dX11_course_111 : decode cX11_course 111 = .ok (.aload_n 0, 1) := by decide +kernel
theorem dX11_course_112 : decode cX11_course 112 = .ok (.getfield 16, 3) := by decide +kernel
theorem dX11_course_115 : decode cX11_course 115 = .ok (.bipush 8, 2) := by decide +kernel
theorem dX11_course_117 : decode cX11_course 117 = .ok (.iconst 3, 1) := by decide +kernel
theorem dX11_course_118 : decode cX11_course 118 = .ok (.iload_n 1, 1) := by decide +kernel
theorem dX11_course_119 : decode cX11_course 119 = .ok (.imul, 1) := by decide +kernel
theorem dX11_course_120 : decode cX11_course 120 = .ok (.iadd, 1) := by decide +kernel
theorem dX11_course_121 : decode cX11_course 121 = .ok (.iload_n 2, 1) := by decide +kernel
theorem dX11_course_122 : decode cX11_course 122 = .ok (.iadd, 1) := by decide +kernel
theorem dX11_course_123 : decode cX11_course 123 = .ok (.iaload, 1) := by decide +kernel
theorem dX11_course_124 : decode cX11_course 124 = .ok (.ireturn, 1) := by decide +kernel
theorem dX11_mason_0 : decode cX11_mason 0 = .ok (.aload_n 0, 1) := by decide +kernel
theorem dX11_mason_1 : decode cX11_mason 1 = .ok (.aload_n 0, 1) := by decide +kernel
theorem dX11_mason_2 : decode cX11_mason 2 = .ok (.getfield 16, 3) := by decide +kernel
theorem dX11_mason_5 : decode cX11_mason 5 = .ok (.iload_n 1, 1) := by decide +kernel
theorem dX11_mason_6 : decode cX11_mason 6 = .ok (.invokestatic 131, 3) := by decide +kernel
theorem dX11_mason_9 : decode cX11_mason 9 = .ok (.ifCond .ne 7, 3) := by decide +kernel
theorem dX11_mason_12 : decode cX11_mason 12 = .ok (.iconst 1, 1) := by decide +kernel
theorem dX11_mason_13 : decode cX11_mason 13 = .ok (.goto 20, 3) := by decide +kernel
theorem dX11_mason_16 : decode cX11_mason 16 = .ok (.iload_n 2, 1) := by decide +kernel
theorem dX11_mason_17 : decode cX11_mason 17 = .ok (.i2l, 1) := by decide +kernel
theorem dX11_mason_18 : decode cX11_mason 18 = .ok (.lconst 0, 1) := by decide +kernel
theorem dX11_mason_19 : decode cX11_mason 19 = .ok (.ldc2_w 134, 3) := by decide +kernel
theorem dX11_mason_22 : decode cX11_mason 22 = .ok (.invokestatic 39, 3) := by decide +kernel
theorem dX11_mason_25 : decode cX11_mason 25 = .ok (.ifCond .ne 7, 3) := by decide +kernel
theorem dX11_mason_28 : decode cX11_mason 28 = .ok (.iconst 2, 1) := by decide +kernel
theorem dX11_mason_29 : decode cX11_mason 29 = .ok (.goto 4, 3) := by decide +kernel
theorem dX11_mason_32 : decode cX11_mason 32 = .ok (.iconst 0, 1) := by decide +kernel
theorem dX11_mason_33 : decode cX11_mason 33 = .ok (.invokevirtual 76, 3) := by decide +kernel
theorem dX11_mason_36 : decode cX11_mason 36 = .ok (.ifCond .eq 5, 3) := by decide +kernel
theorem dX11_mason_39 : decode cX11_mason 39 = .ok (.iconst 0, 1) := by decide +kernel
theorem dX11_mason_40 : decode cX11_mason 40 = .ok (.ireturn, 1) := by decide +kernel
theorem dX11_mason_41 : decode cX11_mason 41 = .ok (.iload_n 2, 1) := by decide +kernel
theorem dX11_mason_42 : decode cX11_mason 42 = .ok (.iconst 4, 1) := by decide +kernel
theorem dX11_mason_43 : decode cX11_mason 43 = .ok (.if_icmp .ge 17, 3) := by decide +kernel
theorem dX11_mason_46 : decode cX11_mason 46 = .ok (.aload_n 0, 1) := by decide +kernel
theorem dX11_mason_47 : decode cX11_mason 47 = .ok (.getfield 16, 3) := by decide +kernel
theorem dX11_mason_50 : decode cX11_mason 50 = .ok (.bipush 26, 2) := by decide +kernel
theorem dX11_mason_52 : decode cX11_mason 52 = .ok (.iconst 4, 1) := by decide +kernel
theorem dX11_mason_53 : decode cX11_mason 53 = .ok (.iload_n 1, 1) := by decide +kernel
theorem dX11_mason_54 : decode cX11_mason 54 = .ok (.imul, 1) := by decide +kernel
theorem dX11_mason_55 : decode cX11_mason 55 = .ok (.iadd, 1) := by decide +kernel
theorem dX11_mason_56 : decode cX11_mason 56 = .ok (.iload_n 2, 1) := by decide +kernel
theorem dX11_mason_57 : decode cX11_mason 57 = .ok (.iadd, 1) := by decide +kernel
theorem dX11_mason_58 : decode cX11_mason 58 = .ok (.iaload, 1) := by decide +kernel
theorem dX11_mason_59 : decode cX11_mason 59 = .ok (.ireturn, 1) := by decide +kernel
theorem dX11_mason_60 : decode cX11_mason 60 = .ok (.iload_n 2, 1) := by decide +kernel
theorem dX11_mason_61 : decode cX11_mason 61 = .ok (.iconst 4, 1) := by decide +kernel
theorem dX11_mason_62 : decode cX11_mason 62 = .ok (.if_icmp .ne 15, 3) := by decide +kernel
theorem dX11_mason_65 : decode cX11_mason 65 = .ok (.aload_n 0, 1) := by decide +kernel
theorem dX11_mason_66 : decode cX11_mason 66 = .ok (.getfield 16, 3) := by decide +kernel
theorem dX11_mason_69 : decode cX11_mason 69 = .ok (.iload_n 1, 1) := by decide +kernel
theorem dX11_mason_70 : decode cX11_mason 70 = .ok (.iconst 3, 1) := by decide +kernel
theorem dX11_mason_71 : decode cX11_mason 71 = .ok (.invokestatic 136, 3) := by decide +kernel
theorem dX11_mason_74 : decode cX11_mason 74 = .ok (.goto 22, 3) := by decide +kernel
theorem dX11_mason_77 : decode cX11_mason 77 = .ok (.aload_n 0, 1) := by decide +kernel
theorem dX11_mason_78 : decode cX11_mason 78 = .ok (.getfield 16, 3) := by decide +kernel
theorem dX11_mason_81 : decode cX11_mason 81 = .ok (.iload_n 1, 1) := by decide +kernel
theorem dX11_mason_82 : decode cX11_mason 82 = .ok (.iconst 2, 1) := by decide +kernel
theorem dX11_mason_83 : decode cX11_mason 83 = .ok (.invokestatic 136, 3) := by decide +kernel
theorem dX11_mason_86 : decode cX11_mason 86 = .ok (.aload_n 0, 1) := by decide +kernel
theorem dX11_mason_87 : decode cX11_mason 87 = .ok (.getfield 16, 3) := by decide +kernel
theorem dX11_mason_90 : decode cX11_mason 90 = .ok (.iload_n 1, 1) := by decide +kernel
theorem dX11_mason_91 : decode cX11_mason 91 = .ok (.iconst 4, 1) := by decide +kernel
theorem dX11_mason_92 : decode cX11_mason 92 = .ok (.invokestatic 136, 3) := by decide +kernel
theorem dX11_mason_95 : decode cX11_mason 95 = .ok (.iadd, 1) := by decide +kernel
theorem dX11_mason_96 : decode cX11_mason 96 = .ok (.ireturn, 1) := by decide +kernel
theorem dX11_stone_0 : decode cX11_stone 0 = .ok (.aload_n 0, 1) := by decide +kernel
theorem dX11_stone_1 : decode cX11_stone 1 = .ok (.aload_n 0, 1) := by decide +kernel
theorem dX11_stone_2 : decode cX11_stone 2 = .ok (.getfield 16, 3) := by decide +kernel
theorem dX11_stone_5 : decode cX11_stone 5 = .ok (.iload_n 1, 1) := by decide +kernel
theorem dX11_stone_6 : decode cX11_stone 6 = .ok (.invokestatic 139, 3) := by decide +kernel
theorem dX11_stone_9 : decode cX11_stone 9 = .ok (.ifCond .ne 7, 3) := by decide +kernel
theorem dX11_stone_12 : decode cX11_stone 12 = .ok (.iconst 1, 1) := by decide +kernel
theorem dX11_stone_13 : decode cX11_stone 13 = .ok (.goto 20, 3) := by decide +kernel
theorem dX11_stone_16 : decode cX11_stone 16 = .ok (.iload_n 2, 1) := by decide +kernel
theorem dX11_stone_17 : decode cX11_stone 17 = .ok (.i2l, 1) := by decide +kernel
theorem dX11_stone_18 : decode cX11_stone 18 = .ok (.lconst 0, 1) := by decide +kernel
theorem dX11_stone_19 : decode cX11_stone 19 = .ok (.ldc2_w 134, 3) := by decide +kernel
theorem dX11_stone_22 : decode cX11_stone 22 = .ok (.invokestatic 39, 3) := by decide +kernel
theorem dX11_stone_25 : decode cX11_stone 25 = .ok (.ifCond .ne 7, 3) := by decide +kernel
theorem dX11_stone_28 : decode cX11_stone 28 = .ok (.iconst 2, 1) := by decide +kernel
theorem dX11_stone_29 : decode cX11_stone 29 = .ok (.goto 4, 3) := by decide +kernel
theorem dX11_stone_32 : decode cX11_stone 32 = .ok (.iconst 0, 1) := by decide +kernel
theorem dX11_stone_33 : decode cX11_stone 33 = .ok (.invokevirtual 76, 3) := by decide +kernel
theorem dX11_stone_36 : decode cX11_stone 36 = .ok (.ifCond .eq 7, 3) := by decide +kernel
theorem dX11_stone_39 : decode cX11_stone 39 = .ok (.iconst 0, 1) := by decide +kernel
theorem dX11_stone_40 : decode cX11_stone 40 = .ok (.goto 17, 3) := by decide +kernel
theorem dX11_stone_43 : decode cX11_stone 43 = .ok (.aload_n 0, 1) := by decide +kernel
theorem dX11_stone_44 : decode cX11_stone 44 = .ok (.getfield 16, 3) := by decide +kernel
theorem dX11_stone_47 : decode cX11_stone 47 = .ok (.bipush 50, 2) := by decide +kernel
theorem dX11_stone_49 : decode cX11_stone 49 = .ok (.bipush 6, 2) := by decide +kernel
theorem dX11_stone_51 : decode cX11_stone 51 = .ok (.iload_n 1, 1) := by decide +kernel
theorem dX11_stone_52 : decode cX11_stone 52 = .ok (.imul, 1) := by decide +kernel
theorem dX11_stone_53 : decode cX11_stone 53 = .ok (.iadd, 1) := by decide +kernel
theorem dX11_stone_54 : decode cX11_stone 54 = .ok (.iload_n 2, 1) := by decide +kernel
theorem dX11_stone_55 : decode cX11_stone 55 = .ok (.iadd, 1) := by decide +kernel
theorem dX11_stone_56 : decode cX11_stone 56 = .ok (.iaload, 1) := by decide +kernel
theorem dX11_stone_57 : decode cX11_stone 57 = .ok (.ireturn, 1) := by decide +kernel
theorem dX11_whyNotSet_0 : decode cX11_whyNotSet 0 = .ok (.aload_n 0, 1) := by decide +kernel
theorem dX11_whyNotSet_1 : decode cX11_whyNotSet 1 = .ok (.aload_n 0, 1) := by decide +kernel
theorem dX11_whyNotSet_2 : decode cX11_whyNotSet 2 = .ok (.getfield 16, 3) := by decide +kernel
theorem dX11_whyNotSet_5 : decode cX11_whyNotSet 5 = .ok (.iload_n 1, 1) := by decide +kernel
theorem dX11_whyNotSet_6 : decode cX11_whyNotSet 6 = .ok (.invokestatic 139, 3) := by decide +kernel
theorem dX11_whyNotSet_9 : decode cX11_whyNotSet 9 = .ok (.ifCond .eq 7, 3) := by decide +kernel
theorem dX11_whyNotSet_12 : decode cX11_whyNotSet 12 = .ok (.iconst 0, 1) := by decide +kernel
theorem dX11_whyNotSet_13 : decode cX11_whyNotSet 13 = .ok (.goto 4, 3) := by decide +kernel
theorem dX11_whyNotSet_16 : decode cX11_whyNotSet 16 = .ok (.iconst 1, 1) := by decide +kernel
theorem dX11_whyNotSet_17 : decode cX11_whyNotSet 17 = .ok (.invokevirtual 76, 3) := by decide +kernel
theorem dX11_whyNotSet_20 : decode cX11_whyNotSet 20 = .ok (.ifCond .eq 7, 3) := by decide +kernel
theorem dX11_whyNotSet_23 : decode cX11_whyNotSet 23 = .ok (.iconst 0, 1) := by decide +kernel
theorem dX11_whyNotSet_24 : decode cX11_whyNotSet 24 = .ok (.goto 11, 3) := by decide +kernel
theorem dX11_whyNotSet_27 : decode cX11_whyNotSet 27 = .ok (.aload_n 0, 1) := by decide +kernel
theorem dX11_whyNotSet_28 : decode cX11_whyNotSet 28 = .ok (.getfield 16, 3) := by decide +kernel
theorem dX11_whyNotSet_31 : decode cX11_whyNotSet 31 = .ok (.iload_n 1, 1) := by decide +kernel
theorem dX11_whyNotSet_32 : decode cX11_whyNotSet 32 = .ok (.invokestatic 142, 3) := by decide +kernel
theorem dX11_whyNotSet_35 : decode cX11_whyNotSet 35 = .ok (.ireturn, 1) := by decide +kernel
theorem dX11_note_0 : decode cX11_note 0 = .ok (.aload_n 0, 1) := by decide +kernel
theorem dX11_note_1 : decode cX11_note 1 = .ok (.getfield 114, 3) := by decide +kernel
theorem dX11_note_4 : decode cX11_note 4 = .ok (.bipush 14, 2) := by decide +kernel
theorem dX11_note_6 : decode cX11_note 6 = .ok (.if_icmp .ne 44, 3) := by decide +kernel
theorem dX11_note_9 : decode cX11_note 9 = .ok (.iconst 0, 1) := by decide +kernel
theorem dX11_note_10 : decode cX11_note 10 = .ok (.istore_n 1, 1) := by decide +kernel
theorem dX11_note_11 : decode cX11_note 11 = .ok (.iload_n 1, 1) := by decide +kernel
theorem dX11_note_12 : decode cX11_note 12 = .ok (.sipush 2522, 3) := by decide +kernel
theorem dX11_note_15 : decode cX11_note 15 = .ok (.if_icmp .ge 25, 3) := by decide +kernel
theorem dX11_note_18 : decode cX11_note 18 = .ok (.aload_n 0, 1) := by decide +kernel
theorem dX11_note_19 : decode cX11_note 19 = .ok (.getfield 22, 3) := by decide +kernel
theorem dX11_note_22 : decode cX11_note 22 = .ok (.iload_n 1, 1) := by decide +kernel
theorem dX11_note_23 : decode cX11_note 23 = .ok (.aload_n 0, 1) := by decide +kernel
theorem dX11_note_24 : decode cX11_note 24 = .ok (.getfield 22, 3) := by decide +kernel
theorem dX11_note_27 : decode cX11_note 27 = .ok (.iload_n 1, 1) := by decide +kernel
theorem dX11_note_28 : decode cX11_note 28 = .ok (.sipush 194, 3) := by decide +kernel
theorem dX11_note_31 : decode cX11_note 31 = .ok (.iadd, 1) := by decide +kernel
theorem dX11_note_32 : decode cX11_note 32 = .ok (.iaload, 1) := by decide +kernel
theorem dX11_note_33 : decode cX11_note 33 = .ok (.iastore, 1) := by decide +kernel
theorem dX11_note_34 : decode cX11_note 34 = .ok (.iinc 1 1, 3) := by decide +kernel
theorem dX11_note_37 : decode cX11_note 37 = .ok (.goto (-26), 3) := by decide +kernel
theorem dX11_note_40 : decode cX11_note 40 = .ok (.aload_n 0, 1) := by decide +kernel
theorem dX11_note_41 : decode cX11_note 41 = .ok (.dup, 1) := by decide +kernel
theorem dX11_note_42 : decode cX11_note 42 = .ok (.getfield 114, 3) := by decide +kernel
theorem dX11_note_45 : decode cX11_note 45 = .ok (.iconst 1, 1) := by decide +kernel
theorem dX11_note_46 : decode cX11_note 46 = .ok (.isub, 1) := by decide +kernel
theorem dX11_note_47 : decode cX11_note 47 = .ok (.putfield 114, 3) := by decide +kernel
theorem dX11_note_50 : decode cX11_note 50 = .ok (.aload_n 0, 1) := by decide +kernel
theorem dX11_note_51 : decode cX11_note 51 = .ok (.getfield 16, 3) := by decide +kernel
theorem dX11_note_54 : decode cX11_note 54 = .ok (.iconst 0, 1) := by decide +kernel
theorem dX11_note_55 : decode cX11_note 55 = .ok (.aload_n 0, 1) := by decide +kernel
theorem dX11_note_56 : decode cX11_note 56 = .ok (.getfield 22, 3) := by decide +kernel
theorem dX11_note_59 : decode cX11_note 59 = .ok (.sipush 194, 3) := by decide +kernel
theorem dX11_note_62 : decode cX11_note 62 = .ok (.aload_n 0, 1) := by decide +kernel
theorem dX11_note_63 : decode cX11_note 63 = .ok (.getfield 114, 3) := by decide +kernel
theorem dX11_note_66 : decode cX11_note 66 = .ok (.imul, 1) := by decide +kernel
theorem dX11_note_67 : decode cX11_note 67 = .ok (.invokestatic 110, 3) := by decide +kernel
theorem dX11_note_70 : decode cX11_note 70 = .ok (.aload_n 0, 1) := by decide +kernel
theorem dX11_note_71 : decode cX11_note 71 = .ok (.dup, 1) := by decide +kernel
theorem dX11_note_72 : decode cX11_note 72 = .ok (.getfield 114, 3) := by decide +kernel
theorem dX11_note_75 : decode cX11_note 75 = .ok (.iconst 1, 1) := by decide +kernel
theorem dX11_note_76 : decode cX11_note 76 = .ok (.iadd, 1) := by decide +kernel
theorem dX11_note_77 : decode cX11_note 77 = .ok (.putfield 114, 3) := by decide +kernel
theorem dX11_note_80 : decode cX11_note 80 = .ok (.return_, 1) := by decide +kernel
theorem dX11_addCourse_0 : decode cX11_addCourse 0 = .ok (.iload_n 1, 1) := by decide +kernel
theorem dX11_addCourse_1 : decode cX11_addCourse 1 = .ok (.i2l, 1) := by decide +kernel
theorem dX11_addCourse_2 : decode cX11_addCourse 2 = .ok (.lconst 1, 1) := by decide +kernel
theorem dX11_addCourse_3 : decode cX11_addCourse 3 = .ok (.ldc2_w 145, 3) := by decide +kernel
theorem dX11_addCourse_6 : decode cX11_addCourse 6 = .ok (.invokestatic 39, 3) := by decide +kernel
theorem dX11_addCourse_9 : decode cX11_addCourse 9 = .ok (.ifCond .eq 31, 3) := by decide +kernel
theorem dX11_addCourse_12 : decode cX11_addCourse 12 = .ok (.iload_n 2, 1) := by decide +kernel
theorem dX11_addCourse_13 : decode cX11_addCourse 13 = .ok (.i2l, 1) := by decide +kernel
theorem dX11_addCourse_14 : decode cX11_addCourse 14 = .ok (.lconst 1, 1) := by decide +kernel
theorem dX11_addCourse_15 : decode cX11_addCourse 15 = .ok (.ldc2_w 129, 3) := by decide +kernel
theorem dX11_addCourse_18 : decode cX11_addCourse 18 = .ok (.invokestatic 39, 3) := by decide +kernel
theorem dX11_addCourse_21 : decode cX11_addCourse 21 = .ok (.ifCond .eq 19, 3) := by decide +kernel
theorem dX11_addCourse_24 : decode cX11_addCourse 24 = .ok (.iload_n 3, 1) := by decide +kernel
theorem dX11_addCourse_25 : decode cX11_addCourse 25 = .ok (.i2l, 1) := by decide +kernel
theorem dX11_addCourse_26 : decode cX11_addCourse 26 = .ok (.lconst 1, 1) := by decide +kernel
theorem dX11_addCourse_27 : decode cX11_addCourse 27 = .ok (.ldc2_w 145, 3) := by decide +kernel
theorem dX11_addCourse_30 : decode cX11_addCourse 30 = .ok (.invokestatic 39, 3) := by decide +kernel
theorem dX11_addCourse_33 : decode cX11_addCourse 33 = .ok (.ifCond .eq 7, 3) := by decide +kernel
theorem dX11_addCourse_36 : decode cX11_addCourse 36 = .ok (.iconst 1, 1) := by decide +kernel
theorem dX11_addCourse_37 : decode cX11_addCourse 37 = .ok (.goto 4, 3) := by decide +kernel
theorem dX11_addCourse_40 : decode cX11_addCourse 40 = .ok (.iconst 0, 1) := by decide +kernel
theorem dX11_addCourse_41 : decode cX11_addCourse 41 = .ok (.istore 4, 2) := by decide +kernel
theorem dX11_addCourse_43 : decode cX11_addCourse 43 = .ok (.aload_n 0, 1) := by decide +kernel
theorem dX11_addCourse_44 : decode cX11_addCourse 44 = .ok (.iload 4, 2) := by decide +kernel
theorem dX11_addCourse_46 : decode cX11_addCourse 46 = .ok (.ifCond .ne 7, 3) := by decide +kernel
theorem dX11_addCourse_49 : decode cX11_addCourse 49 = .ok (.iconst 1, 1) := by decide +kernel
theorem dX11_addCourse_50 : decode cX11_addCourse 50 = .ok (.goto 19, 3) := by decide +kernel
theorem dX11_addCourse_53 : decode cX11_addCourse 53 = .ok (.aload_n 0, 1) := by decide +kernel
theorem dX11_addCourse_54 : decode cX11_addCourse 54 = .ok (.getfield 16, 3) := by decide +kernel
theorem dX11_addCourse_57 : decode cX11_addCourse 57 = .ok (.iconst 5, 1) := by decide +kernel
theorem dX11_addCourse_58 : decode cX11_addCourse 58 = .ok (.iaload, 1) := by decide +kernel
theorem dX11_addCourse_59 : decode cX11_addCourse 59 = .ok (.bipush 6, 2) := by decide +kernel
theorem dX11_addCourse_61 : decode cX11_addCourse 61 = .ok (.if_icmp .ne 7, 3) := by decide +kernel
theorem dX11_addCourse_64 : decode cX11_addCourse 64 = .ok (.iconst 2, 1) := by decide +kernel
theorem dX11_addCourse_65 : decode cX11_addCourse 65 = .ok (.goto 4, 3) := by decide +kernel
theorem dX11_addCourse_68 : decode cX11_addCourse 68 = .ok (.iconst 0, 1) := by decide +kernel
theorem dX11_addCourse_69 : decode cX11_addCourse 69 = .ok (.invokevirtual 76, 3) := by decide +kernel
theorem dX11_addCourse_72 : decode cX11_addCourse 72 = .ok (.ifCond .eq 5, 3) := by decide +kernel
theorem dX11_addCourse_75 : decode cX11_addCourse 75 = .ok (.iconst 0, 1) := by decide +kernel
theorem dX11_addCourse_76 : decode cX11_addCourse 76 = .ok (.ireturn, 1) := by decide +kernel
theorem dX11_addCourse_77 : decode cX11_addCourse 77 = .ok (.aload_n 0, 1) := by decide +kernel
theorem dX11_addCourse_78 : decode cX11_addCourse 78 = .ok (.invokevirtual 147, 3) := by decide +kernel
theorem dX11_addCourse_81 : decode cX11_addCourse 81 = .ok (.bipush 8, 2) := by decide +kernel
theorem dX11_addCourse_83 : decode cX11_addCourse 83 = .ok (.iconst 3, 1) := by decide +kernel
theorem dX11_addCourse_84 : decode cX11_addCourse 84 = .ok (.aload_n 0, 1) := by decide +kernel
theorem dX11_addCourse_85 : decode cX11_addCourse 85 = .ok (.getfield 16, 3) := by decide +kernel
theorem dX11_addCourse_88 : decode cX11_addCourse 88 = .ok (.iconst 5, 1) := by decide +kernel
theorem dX11_addCourse_89 : decode cX11_addCourse 89 = .ok (.iaload, 1) := by decide +kernel
theorem dX11_addCourse_90 : decode cX11_addCourse 90 = .ok (.imul, 1) := by decide +kernel
theorem dX11_addCourse_91 : decode cX11_addCourse 91 = .ok (.iadd, 1) := by decide +kernel
theorem dX11_addCourse_92 : decode cX11_addCourse 92 = .ok (.istore 5, 2) := by decide +kernel
theorem dX11_addCourse_94 : decode cX11_addCourse 94 = .ok (.aload_n 0, 1) := by decide +kernel
theorem dX11_addCourse_95 : decode cX11_addCourse 95 = .ok (.getfield 16, 3) := by decide +kernel
theorem dX11_addCourse_98 : decode cX11_addCourse 98 = .ok (.iload 5, 2) := by decide +kernel
theorem dX11_addCourse_100 : decode cX11_addCourse 100 = .ok (.iload_n 1, 1) := by decide +kernel
theorem dX11_addCourse_101 : decode cX11_addCourse 101 = .ok (.iastore, 1) := by decide +kernel
theorem dX11_addCourse_102 : decode cX11_addCourse 102 = .ok (.aload_n 0, 1) := by decide +kernel
theorem dX11_addCourse_103 : decode cX11_addCourse 103 = .ok (.getfield 16, 3) := by decide +kernel
theorem dX11_addCourse_106 : decode cX11_addCourse 106 = .ok (.iload 5, 2) := by decide +kernel
theorem dX11_addCourse_108 : decode cX11_addCourse 108 = .ok (.iconst 1, 1) := by decide +kernel
theorem dX11_addCourse_109 : decode cX11_addCourse 109 = .ok (.iadd, 1) := by decide +kernel
theorem dX11_addCourse_110 : decode cX11_addCourse 110 = .ok (.iload_n 2, 1) := by decide +kernel
theorem dX11_addCourse_111 : decode cX11_addCourse 111 = .ok (.iastore, 1) := by decide +kernel
theorem dX11_addCourse_112 : decode cX11_addCourse 112 = .ok (.aload_n 0, 1) := by decide +kernel
theorem dX11_addCourse_113 : decode cX11_addCourse 113 = .ok (.getfield 16, 3) := by decide +kernel
theorem dX11_addCourse_116 : decode cX11_addCourse 116 = .ok (.iload 5, 2) := by decide +kernel
theorem dX11_addCourse_118 : decode cX11_addCourse 118 = .ok (.iconst 2, 1) := by decide +kernel
theorem dX11_addCourse_119 : decode cX11_addCourse 119 = .ok (.iadd, 1) := by decide +kernel
theorem dX11_addCourse_120 : decode cX11_addCourse 120 = .ok (.iload_n 3, 1) := by decide +kernel
theorem dX11_addCourse_121 : decode cX11_addCourse 121 = .ok (.iastore, 1) := by decide +kernel
theorem dX11_addCourse_122 : decode cX11_addCourse 122 = .ok (.aload_n 0, 1) := by decide +kernel
theorem dX11_addCourse_123 : decode cX11_addCourse 123 = .ok (.getfield 16, 3) := by decide +kernel
theorem dX11_addCourse_126 : decode cX11_addCourse 126 = .ok (.iconst 5, 1) := by decide +kernel
theorem dX11_addCourse_127 : decode cX11_addCourse 127 = .ok (.dup2, 1) := by decide +kernel
theorem dX11_addCourse_128 : decode cX11_addCourse 128 = .ok (.iaload, 1) := by decide +kernel
theorem dX11_addCourse_129 : decode cX11_addCourse 129 = .ok (.iconst 1, 1) := by decide +kernel
theorem dX11_addCourse_130 : decode cX11_addCourse 130 = .ok (.iadd, 1) := by decide +kernel
theorem dX11_addCourse_131 : decode cX11_addCourse 131 = .ok (.iastore, 1) := by decide +kernel
theorem dX11_addCourse_132 : decode cX11_addCourse 132 = .ok (.aload_n 0, 1) := by decide +kernel
theorem dX11_addCourse_133 : decode cX11_addCourse 133 = .ok (.getfield 16, 3) := by decide +kernel
theorem dX11_addCourse_136 : decode cX11_addCourse 136 = .ok (.iconst 5, 1) := by decide +kernel
theorem dX11_addCourse_137 : decode cX11_addCourse 137 = .ok (.iaload, 1) := by decide +kernel
theorem dX11_addCourse_138 : decode cX11_addCourse 138 = .ok (.iconst 1, 1) := by decide +kernel
theorem dX11_addCourse_139 : decode cX11_addCourse 139 = .ok (.isub, 1) := by decide +kernel
theorem dX11_addCourse_140 : decode cX11_addCourse 140 = .ok (.ireturn, 1) := by decide +kernel
theorem dX11_addMason_0 : decode cX11_addMason 0 = .ok (.aload_n 0, 1) := by decide +kernel
theorem dX11_addMason_1 : decode cX11_addMason 1 = .ok (.iload_n 1, 1) := by decide +kernel
theorem dX11_addMason_2 : decode cX11_addMason 2 = .ok (.i2l, 1) := by decide +kernel
theorem dX11_addMason_3 : decode cX11_addMason 3 = .ok (.lconst 1, 1) := by decide +kernel
theorem dX11_addMason_4 : decode cX11_addMason 4 = .ok (.ldc2_w 145, 3) := by decide +kernel
theorem dX11_addMason_7 : decode cX11_addMason 7 = .ok (.invokestatic 39, 3) := by decide +kernel
theorem dX11_addMason_10 : decode cX11_addMason 10 = .ok (.ifCond .eq 15, 3) := by decide +kernel
theorem dX11_addMason_13 : decode cX11_addMason 13 = .ok (.iload_n 2, 1) := by decide +kernel
theorem dX11_addMason_14 : decode cX11_addMason 14 = .ok (.i2l, 1) := by decide +kernel
theorem dX11_addMason_15 : decode cX11_addMason 15 = .ok (.lconst 1, 1) := by decide +kernel
theorem dX11_addMason_16 : decode cX11_addMason 16 = .ok (.ldc2_w 150, 3) := by decide +kernel
theorem dX11_addMason_19 : decode cX11_addMason 19 = .ok (.invokestatic 39, 3) := by decide +kernel
theorem dX11_addMason_22 : decode cX11_addMason 22 = .ok (.ifCond .ne 7, 3) := by decide +kernel
theorem dX11_addMason_25 : decode cX11_addMason 25 = .ok (.iconst 1, 1) := by decide +kernel
theorem dX11_addMason_26 : decode cX11_addMason 26 = .ok (.goto 20, 3) := by decide +kernel
theorem dX11_addMason_29 : decode cX11_addMason 29 = .ok (.aload_n 0, 1) := by decide +kernel
theorem dX11_addMason_30 : decode cX11_addMason 30 = .ok (.getfield 16, 3) := by decide +kernel
theorem dX11_addMason_33 : decode cX11_addMason 33 = .ok (.bipush 6, 2) := by decide +kernel
theorem dX11_addMason_35 : decode cX11_addMason 35 = .ok (.iaload, 1) := by decide +kernel
theorem dX11_addMason_36 : decode cX11_addMason 36 = .ok (.bipush 6, 2) := by decide +kernel
theorem dX11_addMason_38 : decode cX11_addMason 38 = .ok (.if_icmp .ne 7, 3) := by decide +kernel
theorem dX11_addMason_41 : decode cX11_addMason 41 = .ok (.iconst 2, 1) := by decide +kernel
theorem dX11_addMason_42 : decode cX11_addMason 42 = .ok (.goto 4, 3) := by decide +kernel
theorem dX11_addMason_45 : decode cX11_addMason 45 = .ok (.iconst 0, 1) := by decide +kernel
theorem dX11_addMason_46 : decode cX11_addMason 46 = .ok (.invokevirtual 76, 3) := by decide +kernel
theorem dX11_addMason_49 : decode cX11_addMason 49 = .ok (.ifCond .eq 5, 3) := by decide +kernel
theorem dX11_addMason_52 : decode cX11_addMason 52 = .ok (.iconst 0, 1) := by decide +kernel
theorem dX11_addMason_53 : decode cX11_addMason 53 = .ok (.ireturn, 1) := by decide +kernel
theorem dX11_addMason_54 : decode cX11_addMason 54 = .ok (.aload_n 0, 1) := by decide +kernel
theorem dX11_addMason_55 : decode cX11_addMason 55 = .ok (.invokevirtual 147, 3) := by decide +kernel
theorem dX11_addMason_58 : decode cX11_addMason 58 = .ok (.bipush 26, 2) := by decide +kernel
theorem dX11_addMason_60 : decode cX11_addMason 60 = .ok (.iconst 4, 1) := by decide +kernel
theorem dX11_addMason_61 : decode cX11_addMason 61 = .ok (.aload_n 0, 1) := by decide +kernel
theorem dX11_addMason_62 : decode cX11_addMason 62 = .ok (.getfield 16, 3) := by decide +kernel
theorem dX11_addMason_65 : decode cX11_addMason 65 = .ok (.bipush 6, 2) := by decide +kernel
theorem dX11_addMason_67 : decode cX11_addMason 67 = .ok (.iaload, 1) := by decide +kernel
theorem dX11_addMason_68 : decode cX11_addMason 68 = .ok (.imul, 1) := by decide +kernel
theorem dX11_addMason_69 : decode cX11_addMason 69 = .ok (.iadd, 1) := by decide +kernel
theorem dX11_addMason_70 : decode cX11_addMason 70 = .ok (.istore_n 3, 1) := by decide +kernel
theorem dX11_addMason_71 : decode cX11_addMason 71 = .ok (.aload_n 0, 1) := by decide +kernel
theorem dX11_addMason_72 : decode cX11_addMason 72 = .ok (.getfield 16, 3) := by decide +kernel
theorem dX11_addMason_75 : decode cX11_addMason 75 = .ok (.iload_n 3, 1) := by decide +kernel
theorem dX11_addMason_76 : decode cX11_addMason 76 = .ok (.iload_n 1, 1) := by decide +kernel
theorem dX11_addMason_77 : decode cX11_addMason 77 = .ok (.iastore, 1) := by decide +kernel
theorem dX11_addMason_78 : decode cX11_addMason 78 = .ok (.aload_n 0, 1) := by decide +kernel
theorem dX11_addMason_79 : decode cX11_addMason 79 = .ok (.getfield 16, 3) := by decide +kernel
theorem dX11_addMason_82 : decode cX11_addMason 82 = .ok (.iload_n 3, 1) := by decide +kernel
theorem dX11_addMason_83 : decode cX11_addMason 83 = .ok (.iconst 1, 1) := by decide +kernel
theorem dX11_addMason_84 : decode cX11_addMason 84 = .ok (.iadd, 1) := by decide +kernel
theorem dX11_addMason_85 : decode cX11_addMason 85 = .ok (.iload_n 2, 1) := by decide +kernel
theorem dX11_addMason_86 : decode cX11_addMason 86 = .ok (.iastore, 1) := by decide +kernel
theorem dX11_addMason_87 : decode cX11_addMason 87 = .ok (.aload_n 0, 1) := by decide +kernel
theorem dX11_addMason_88 : decode cX11_addMason 88 = .ok (.getfield 16, 3) := by decide +kernel
theorem dX11_addMason_91 : decode cX11_addMason 91 = .ok (.iload_n 3, 1) := by decide +kernel
theorem dX11_addMason_92 : decode cX11_addMason 92 = .ok (.iconst 2, 1) := by decide +kernel
theorem dX11_addMason_93 : decode cX11_addMason 93 = .ok (.iadd, 1) := by decide +kernel
theorem dX11_addMason_94 : decode cX11_addMason 94 = .ok (.iconst 0, 1) := by decide +kernel
theorem dX11_addMason_95 : decode cX11_addMason 95 = .ok (.iastore, 1) := by decide +kernel
theorem dX11_addMason_96 : decode cX11_addMason 96 = .ok (.aload_n 0, 1) := by decide +kernel
theorem dX11_addMason_97 : decode cX11_addMason 97 = .ok (.getfield 16, 3) := by decide +kernel
theorem dX11_addMason_100 : decode cX11_addMason 100 = .ok (.iload_n 3, 1) := by decide +kernel
theorem dX11_addMason_101 : decode cX11_addMason 101 = .ok (.iconst 3, 1) := by decide +kernel
theorem dX11_addMason_102 : decode cX11_addMason 102 = .ok (.iadd, 1) := by decide +kernel
theorem dX11_addMason_103 : decode cX11_addMason 103 = .ok (.iconst 0, 1) := by decide +kernel
theorem dX11_addMason_104 : decode cX11_addMason 104 = .ok (.iastore, 1) := by decide +kernel
theorem dX11_addMason_105 : decode cX11_addMason 105 = .ok (.aload_n 0, 1) := by decide +kernel
theorem dX11_addMason_106 : decode cX11_addMason 106 = .ok (.getfield 16, 3) := by decide +kernel
theorem dX11_addMason_109 : decode cX11_addMason 109 = .ok (.bipush 6, 2) := by decide +kernel
theorem dX11_addMason_111 : decode cX11_addMason 111 = .ok (.dup2, 1) := by decide +kernel
theorem dX11_addMason_112 : decode cX11_addMason 112 = .ok (.iaload, 1) := by decide +kernel
theorem dX11_addMason_113 : decode cX11_addMason 113 = .ok (.iconst 1, 1) := by decide +kernel
theorem dX11_addMason_114 : decode cX11_addMason 114 = .ok (.iadd, 1) := by decide +kernel
theorem dX11_addMason_115 : decode cX11_addMason 115 = .ok (.iastore, 1) := by decide +kernel
theorem dX11_addMason_116 : decode cX11_addMason 116 = .ok (.aload_n 0, 1) := by decide +kernel
theorem dX11_addMason_117 : decode cX11_addMason 117 = .ok (.getfield 16, 3) := by decide +kernel
theorem dX11_addMason_120 : decode cX11_addMason 120 = .ok (.bipush 6, 2) := by decide +kernel
theorem dX11_addMason_122 : decode cX11_addMason 122 = .ok (.iaload, 1) := by decide +kernel
theorem dX11_addMason_123 : decode cX11_addMason 123 = .ok (.iconst 1, 1) := by decide +kernel
theorem dX11_addMason_124 : decode cX11_addMason 124 = .ok (.isub, 1) := by decide +kernel
theorem dX11_addMason_125 : decode cX11_addMason 125 = .ok (.ireturn, 1) := by decide +kernel
theorem dX11_setRate_0 : decode cX11_setRate 0 = .ok (.aload_n 0, 1) := by decide +kernel
theorem dX11_setRate_1 : decode cX11_setRate 1 = .ok (.aload_n 0, 1) := by decide +kernel
theorem dX11_setRate_2 : decode cX11_setRate 2 = .ok (.getfield 16, 3) := by decide +kernel
theorem dX11_setRate_5 : decode cX11_setRate 5 = .ok (.iload_n 1, 1) := by decide +kernel
theorem dX11_setRate_6 : decode cX11_setRate 6 = .ok (.invokestatic 131, 3) := by decide +kernel
theorem dX11_setRate_9 : decode cX11_setRate 9 = .ok (.ifCond .ne 7, 3) := by decide +kernel
theorem dX11_setRate_12 : decode cX11_setRate 12 = .ok (.iconst 1, 1) := by decide +kernel
theorem dX11_setRate_13 : decode cX11_setRate 13 = .ok (.goto 20, 3) := by decide +kernel
theorem dX11_setRate_16 : decode cX11_setRate 16 = .ok (.iload_n 2, 1) := by decide +kernel
theorem dX11_setRate_17 : decode cX11_setRate 17 = .ok (.i2l, 1) := by decide +kernel
theorem dX11_setRate_18 : decode cX11_setRate 18 = .ok (.lconst 1, 1) := by decide +kernel
theorem dX11_setRate_19 : decode cX11_setRate 19 = .ok (.ldc2_w 145, 3) := by decide +kernel
theorem dX11_setRate_22 : decode cX11_setRate 22 = .ok (.invokestatic 39, 3) := by decide +kernel
theorem dX11_setRate_25 : decode cX11_setRate 25 = .ok (.ifCond .ne 7, 3) := by decide +kernel
theorem dX11_setRate_28 : decode cX11_setRate 28 = .ok (.iconst 2, 1) := by decide +kernel
theorem dX11_setRate_29 : decode cX11_setRate 29 = .ok (.goto 4, 3) := by decide +kernel
theorem dX11_setRate_32 : decode cX11_setRate 32 = .ok (.iconst 0, 1) := by decide +kernel
theorem dX11_setRate_33 : decode cX11_setRate 33 = .ok (.invokevirtual 76, 3) := by decide +kernel
theorem dX11_setRate_36 : decode cX11_setRate 36 = .ok (.ifCond .eq 5, 3) := by decide +kernel
theorem dX11_setRate_39 : decode cX11_setRate 39 = .ok (.iconst 0, 1) := by decide +kernel
theorem dX11_setRate_40 : decode cX11_setRate 40 = .ok (.ireturn, 1) := by decide +kernel
theorem dX11_setRate_41 : decode cX11_setRate 41 = .ok (.aload_n 0, 1) := by decide +kernel
theorem dX11_setRate_42 : decode cX11_setRate 42 = .ok (.invokevirtual 147, 3) := by decide +kernel
theorem dX11_setRate_45 : decode cX11_setRate 45 = .ok (.aload_n 0, 1) := by decide +kernel
theorem dX11_setRate_46 : decode cX11_setRate 46 = .ok (.getfield 16, 3) := by decide +kernel
theorem dX11_setRate_49 : decode cX11_setRate 49 = .ok (.bipush 26, 2) := by decide +kernel
theorem dX11_setRate_51 : decode cX11_setRate 51 = .ok (.iconst 4, 1) := by decide +kernel
theorem dX11_setRate_52 : decode cX11_setRate 52 = .ok (.iload_n 1, 1) := by decide +kernel
theorem dX11_setRate_53 : decode cX11_setRate 53 = .ok (.imul, 1) := by decide +kernel
theorem dX11_setRate_54 : decode cX11_setRate 54 = .ok (.iadd, 1) := by decide +kernel
theorem dX11_setRate_55 : decode cX11_setRate 55 = .ok (.iaload, 1) := by decide +kernel
theorem dX11_setRate_56 : decode cX11_setRate 56 = .ok (.istore_n 3, 1) := by decide +kernel
theorem dX11_setRate_57 : decode cX11_setRate 57 = .ok (.aload_n 0, 1) := by decide +kernel
theorem dX11_setRate_58 : decode cX11_setRate 58 = .ok (.getfield 16, 3) := by decide +kernel
theorem dX11_setRate_61 : decode cX11_setRate 61 = .ok (.bipush 26, 2) := by decide +kernel
theorem dX11_setRate_63 : decode cX11_setRate 63 = .ok (.iconst 4, 1) := by decide +kernel
theorem dX11_setRate_64 : decode cX11_setRate 64 = .ok (.iload_n 1, 1) := by decide +kernel
theorem dX11_setRate_65 : decode cX11_setRate 65 = .ok (.imul, 1) := by decide +kernel
theorem dX11_setRate_66 : decode cX11_setRate 66 = .ok (.iadd, 1) := by decide +kernel
theorem dX11_setRate_67 : decode cX11_setRate 67 = .ok (.iload_n 2, 1) := by decide +kernel
theorem dX11_setRate_68 : decode cX11_setRate 68 = .ok (.iastore, 1) := by decide +kernel
theorem dX11_setRate_69 : decode cX11_setRate 69 = .ok (.iload_n 3, 1) := by decide +kernel
theorem dX11_setRate_70 : decode cX11_setRate 70 = .ok (.ireturn, 1) := by decide +kernel
theorem dX11_setBound_0 : decode cX11_setBound 0 = .ok (.aload_n 0, 1) := by decide +kernel
theorem dX11_setBound_1 : decode cX11_setBound 1 = .ok (.iload_n 1, 1) := by decide +kernel
theorem dX11_setBound_2 : decode cX11_setBound 2 = .ok (.i2l, 1) := by decide +kernel
theorem dX11_setBound_3 : decode cX11_setBound 3 = .ok (.lconst 0, 1) := by decide +kernel
theorem dX11_setBound_4 : decode cX11_setBound 4 = .ok (.ldc2_w 145, 3) := by decide +kernel
theorem dX11_setBound_7 : decode cX11_setBound 7 = .ok (.invokestatic 39, 3) := by decide +kernel
theorem dX11_setBound_10 : decode cX11_setBound 10 = .ok (.ifCond .eq 7, 3) := by decide +kernel
theorem dX11_setBound_13 : decode cX11_setBound 13 = .ok (.iconst 0, 1) := by decide +kernel
theorem dX11_setBound_14 : decode cX11_setBound 14 = .ok (.goto 4, 3) := by decide +kernel
theorem dX11_setBound_17 : decode cX11_setBound 17 = .ok (.iconst 1, 1) := by decide +kernel
theorem dX11_setBound_18 : decode cX11_setBound 18 = .ok (.invokevirtual 76, 3) := by decide +kernel
theorem dX11_setBound_21 : decode cX11_setBound 21 = .ok (.ifCond .eq 5, 3) := by decide +kernel
theorem dX11_setBound_24 : decode cX11_setBound 24 = .ok (.iconst 0, 1) := by decide +kernel
theorem dX11_setBound_25 : decode cX11_setBound 25 = .ok (.ireturn, 1) := by decide +kernel
theorem dX11_setBound_26 : decode cX11_setBound 26 = .ok (.aload_n 0, 1) := by decide +kernel
theorem dX11_setBound_27 : decode cX11_setBound 27 = .ok (.invokevirtual 147, 3) := by decide +kernel
theorem dX11_setBound_30 : decode cX11_setBound 30 = .ok (.aload_n 0, 1) := by decide +kernel
theorem dX11_setBound_31 : decode cX11_setBound 31 = .ok (.getfield 16, 3) := by decide +kernel
theorem dX11_setBound_34 : decode cX11_setBound 34 = .ok (.iconst 0, 1) := by decide +kernel
theorem dX11_setBound_35 : decode cX11_setBound 35 = .ok (.iaload, 1) := by decide +kernel
theorem dX11_setBound_36 : decode cX11_setBound 36 = .ok (.istore_n 2, 1) := by decide +kernel
theorem dX11_setBound_37 : decode cX11_setBound 37 = .ok (.aload_n 0, 1) := by decide +kernel
theorem dX11_setBound_38 : decode cX11_setBound 38 = .ok (.getfield 16, 3) := by decide +kernel
theorem dX11_setBound_41 : decode cX11_setBound 41 = .ok (.iconst 0, 1) := by decide +kernel
theorem dX11_setBound_42 : decode cX11_setBound 42 = .ok (.iload_n 1, 1) := by decide +kernel
theorem dX11_setBound_43 : decode cX11_setBound 43 = .ok (.iastore, 1) := by decide +kernel
theorem dX11_setBound_44 : decode cX11_setBound 44 = .ok (.iload_n 2, 1) := by decide +kernel
theorem dX11_setBound_45 : decode cX11_setBound 45 = .ok (.ireturn, 1) := by decide +kernel
theorem dX11_cut_0 : decode cX11_cut 0 = .ok (.aload_n 0, 1) := by decide +kernel
theorem dX11_cut_1 : decode cX11_cut 1 = .ok (.getfield 16, 3) := by decide +kernel
theorem dX11_cut_4 : decode cX11_cut 4 = .ok (.iload_n 1, 1) := by decide +kernel
theorem dX11_cut_5 : decode cX11_cut 5 = .ok (.invokestatic 131, 3) := by decide +kernel
theorem dX11_cut_8 : decode cX11_cut 8 = .ok (.ifCond .eq 18, 3) := by decide +kernel
theorem dX11_cut_11 : decode cX11_cut 11 = .ok (.aload_n 0, 1) := by decide +kernel
theorem dX11_cut_12 : decode cX11_cut 12 = .ok (.getfield 16, 3) := by decide +kernel
theorem dX11_cut_15 : decode cX11_cut 15 = .ok (.iload_n 2, 1) := by decide +kernel
theorem dX11_cut_16 : decode cX11_cut 16 = .ok (.invokestatic 126, 3) := by decide +kernel
theorem dX11_cut_19 : decode cX11_cut 19 = .ok (.ifCond .eq 7, 3) := by decide +kernel
theorem dX11_cut_22 : decode cX11_cut 22 = .ok (.iconst 1, 1) := by decide +kernel
theorem dX11_cut_23 : decode cX11_cut 23 = .ok (.goto 4, 3) := by decide +kernel
theorem dX11_cut_26 : decode cX11_cut 26 = .ok (.iconst 0, 1) := by decide +kernel
theorem dX11_cut_27 : decode cX11_cut 27 = .ok (.istore 4, 2) := by decide +kernel
theorem dX11_cut_29 : decode cX11_cut 29 = .ok (.aload_n 0, 1) := by decide +kernel
theorem dX11_cut_30 : decode cX11_cut 30 = .ok (.iload 4, 2) := by decide +kernel
theorem dX11_cut_32 : decode cX11_cut 32 = .ok (.ifCond .ne 7, 3) := by decide +kernel
theorem dX11_cut_35 : decode cX11_cut 35 = .ok (.iconst 1, 1) := by decide +kernel
theorem dX11_cut_36 : decode cX11_cut 36 = .ok (.goto 36, 3) := by decide +kernel
theorem dX11_cut_39 : decode cX11_cut 39 = .ok (.iload_n 3, 1) := by decide +kernel
theorem dX11_cut_40 : decode cX11_cut 40 = .ok (.i2l, 1) := by decide +kernel
theorem dX11_cut_41 : decode cX11_cut 41 = .ok (.lconst 0, 1) := by decide +kernel
theorem dX11_cut_42 : decode cX11_cut 42 = .ok (.ldc2_w 145, 3) := by decide +kernel
theorem dX11_cut_45 : decode cX11_cut 45 = .ok (.invokestatic 39, 3) := by decide +kernel
theorem dX11_cut_48 : decode cX11_cut 48 = .ok (.ifCond .ne 7, 3) := by decide +kernel
theorem dX11_cut_51 : decode cX11_cut 51 = .ok (.iconst 2, 1) := by decide +kernel
theorem dX11_cut_52 : decode cX11_cut 52 = .ok (.goto 20, 3) := by decide +kernel
theorem dX11_cut_55 : decode cX11_cut 55 = .ok (.aload_n 0, 1) := by decide +kernel
theorem dX11_cut_56 : decode cX11_cut 56 = .ok (.getfield 16, 3) := by decide +kernel
theorem dX11_cut_59 : decode cX11_cut 59 = .ok (.iload_n 1, 1) := by decide +kernel
theorem dX11_cut_60 : decode cX11_cut 60 = .ok (.iload_n 2, 1) := by decide +kernel
theorem dX11_cut_61 : decode cX11_cut 61 = .ok (.invokestatic 152, 3) := by decide +kernel
theorem dX11_cut_64 : decode cX11_cut 64 = .ok (.ifCond .ne 7, 3) := by decide +kernel
theorem dX11_cut_67 : decode cX11_cut 67 = .ok (.iconst 3, 1) := by decide +kernel
theorem dX11_cut_68 : decode cX11_cut 68 = .ok (.goto 4, 3) := by decide +kernel
theorem dX11_cut_71 : decode cX11_cut 71 = .ok (.iconst 0, 1) := by decide +kernel
theorem dX11_cut_72 : decode cX11_cut 72 = .ok (.invokevirtual 76, 3) := by decide +kernel
theorem dX11_cut_75 : decode cX11_cut 75 = .ok (.ifCond .eq 5, 3) := by decide +kernel
theorem dX11_cut_78 : decode cX11_cut 78 = .ok (.iconst 0, 1) := by decide +kernel
theorem dX11_cut_79 : decode cX11_cut 79 = .ok (.ireturn, 1) := by decide +kernel
theorem dX11_cut_80 : decode cX11_cut 80 = .ok (.aload_n 0, 1) := by decide +kernel
theorem dX11_cut_81 : decode cX11_cut 81 = .ok (.invokevirtual 147, 3) := by decide +kernel
theorem dX11_cut_84 : decode cX11_cut 84 = .ok (.aload_n 0, 1) := by decide +kernel
theorem dX11_cut_85 : decode cX11_cut 85 = .ok (.getfield 16, 3) := by decide +kernel
theorem dX11_cut_88 : decode cX11_cut 88 = .ok (.iload_n 1, 1) := by decide +kernel
theorem dX11_cut_89 : decode cX11_cut 89 = .ok (.iload_n 2, 1) := by decide +kernel
theorem dX11_cut_90 : decode cX11_cut 90 = .ok (.iload_n 3, 1) := by decide +kernel
theorem dX11_cut_91 : decode cX11_cut 91 = .ok (.invokestatic 156, 3) := by decide +kernel
theorem dX11_cut_94 : decode cX11_cut 94 = .ok (.ireturn, 1) := by decide +kernel
theorem dX11_inspect_0 : decode cX11_inspect 0 = .ok (.aload_n 0, 1) := by decide +kernel
theorem dX11_inspect_1 : decode cX11_inspect 1 = .ok (.aload_n 0, 1) := by decide +kernel
theorem dX11_inspect_2 : decode cX11_inspect 2 = .ok (.getfield 16, 3) := by decide +kernel
theorem dX11_inspect_5 : decode cX11_inspect 5 = .ok (.iload_n 1, 1) := by decide +kernel
theorem dX11_inspect_6 : decode cX11_inspect 6 = .ok (.invokestatic 139, 3) := by decide +kernel
theorem dX11_inspect_9 : decode cX11_inspect 9 = .ok (.ifCond .ne 7, 3) := by decide +kernel
theorem dX11_inspect_12 : decode cX11_inspect 12 = .ok (.iconst 1, 1) := by decide +kernel
theorem dX11_inspect_13 : decode cX11_inspect 13 = .ok (.goto 25, 3) := by decide +kernel
theorem dX11_inspect_16 : decode cX11_inspect 16 = .ok (.aload_n 0, 1) := by decide +kernel
theorem dX11_inspect_17 : decode cX11_inspect 17 = .ok (.getfield 16, 3) := by decide +kernel
theorem dX11_inspect_20 : decode cX11_inspect 20 = .ok (.bipush 50, 2) := by decide +kernel
theorem dX11_inspect_22 : decode cX11_inspect 22 = .ok (.bipush 6, 2) := by decide +kernel
theorem dX11_inspect_24 : decode cX11_inspect 24 = .ok (.iload_n 1, 1) := by decide +kernel
theorem dX11_inspect_25 : decode cX11_inspect 25 = .ok (.imul, 1) := by decide +kernel
theorem dX11_inspect_26 : decode cX11_inspect 26 = .ok (.iadd, 1) := by decide +kernel
theorem dX11_inspect_27 : decode cX11_inspect 27 = .ok (.iconst 3, 1) := by decide +kernel
theorem dX11_inspect_28 : decode cX11_inspect 28 = .ok (.iadd, 1) := by decide +kernel
theorem dX11_inspect_29 : decode cX11_inspect 29 = .ok (.iaload, 1) := by decide +kernel
theorem dX11_inspect_30 : decode cX11_inspect 30 = .ok (.ifCond .eq 7, 3) := by decide +kernel
theorem dX11_inspect_33 : decode cX11_inspect 33 = .ok (.iconst 2, 1) := by decide +kernel
theorem dX11_inspect_34 : decode cX11_inspect 34 = .ok (.goto 4, 3) := by decide +kernel
theorem dX11_inspect_37 : decode cX11_inspect 37 = .ok (.iconst 0, 1) := by decide +kernel
theorem dX11_inspect_38 : decode cX11_inspect 38 = .ok (.invokevirtual 76, 3) := by decide +kernel
theorem dX11_inspect_41 : decode cX11_inspect 41 = .ok (.ifCond .eq 5, 3) := by decide +kernel
theorem dX11_inspect_44 : decode cX11_inspect 44 = .ok (.iconst 0, 1) := by decide +kernel
theorem dX11_inspect_45 : decode cX11_inspect 45 = .ok (.ireturn, 1) := by decide +kernel
theorem dX11_inspect_46 : decode cX11_inspect 46 = .ok (.aload_n 0, 1) := by decide +kernel
theorem dX11_inspect_47 : decode cX11_inspect 47 = .ok (.invokevirtual 147, 3) := by decide +kernel
theorem dX11_inspect_50 : decode cX11_inspect 50 = .ok (.aload_n 0, 1) := by decide +kernel
theorem dX11_inspect_51 : decode cX11_inspect 51 = .ok (.getfield 16, 3) := by decide +kernel
theorem dX11_inspect_54 : decode cX11_inspect 54 = .ok (.iload_n 1, 1) := by decide +kernel
theorem dX11_inspect_55 : decode cX11_inspect 55 = .ok (.invokestatic 159, 3) := by decide +kernel
theorem dX11_inspect_58 : decode cX11_inspect 58 = .ok (.ireturn, 1) := by decide +kernel
theorem dX11_recut_0 : decode cX11_recut 0 = .ok (.aload_n 0, 1) := by decide +kernel
theorem dX11_recut_1 : decode cX11_recut 1 = .ok (.getfield 16, 3) := by decide +kernel
theorem dX11_recut_4 : decode cX11_recut 4 = .ok (.iload_n 1, 1) := by decide +kernel
theorem dX11_recut_5 : decode cX11_recut 5 = .ok (.invokestatic 131, 3) := by decide +kernel
theorem dX11_recut_8 : decode cX11_recut 8 = .ok (.ifCond .eq 29, 3) := by decide +kernel
theorem dX11_recut_11 : decode cX11_recut 11 = .ok (.aload_n 0, 1) := by decide +kernel
theorem dX11_recut_12 : decode cX11_recut 12 = .ok (.getfield 16, 3) := by decide +kernel
theorem dX11_recut_15 : decode cX11_recut 15 = .ok (.iload_n 2, 1) := by decide +kernel
theorem dX11_recut_16 : decode cX11_recut 16 = .ok (.invokestatic 139, 3) := by decide +kernel
theorem dX11_recut_19 : decode cX11_recut 19 = .ok (.ifCond .eq 18, 3) := by decide +kernel
theorem dX11_recut_22 : decode cX11_recut 22 = .ok (.aload_n 0, 1) := by decide +kernel
theorem dX11_recut_23 : decode cX11_recut 23 = .ok (.getfield 16, 3) := by decide +kernel
theorem dX11_recut_26 : decode cX11_recut 26 = .ok (.iload_n 3, 1) := by decide +kernel
theorem dX11_recut_27 : decode cX11_recut 27 = .ok (.invokestatic 126, 3) := by decide +kernel
theorem dX11_recut_30 : decode cX11_recut 30 = .ok (.ifCond .eq 7, 3) := by decide +kernel
theorem dX11_recut_33 : decode cX11_recut 33 = .ok (.iconst 1, 1) := by decide +kernel
theorem dX11_recut_34 : decode cX11_recut 34 = .ok (.goto 4, 3) := by decide +kernel
theorem dX11_recut_37 : decode cX11_recut 37 = .ok (.iconst 0, 1) := by decide +kernel
theorem dX11_recut_38 : decode cX11_recut 38 = .ok (.istore 4, 2) := by decide +kernel
theorem dX11_recut_40 : decode cX11_recut 40 = .ok (.aload_n 0, 1) := by decide +kernel
theorem dX11_recut_41 : decode cX11_recut 41 = .ok (.iload 4, 2) := by decide +kernel
theorem dX11_recut_43 : decode cX11_recut 43 = .ok (.ifCond .ne 7, 3) := by decide +kernel
theorem dX11_recut_46 : decode cX11_recut 46 = .ok (.iconst 1, 1) := by decide +kernel
theorem dX11_recut_47 : decode cX11_recut 47 = .ok (.goto 21, 3) := by decide +kernel
theorem dX11_recut_50 : decode cX11_recut 50 = .ok (.aload_n 0, 1) := by decide +kernel
theorem dX11_recut_51 : decode cX11_recut 51 = .ok (.getfield 16, 3) := by decide +kernel
theorem dX11_recut_54 : decode cX11_recut 54 = .ok (.iload_n 1, 1) := by decide +kernel
theorem dX11_recut_55 : decode cX11_recut 55 = .ok (.iload_n 2, 1) := by decide +kernel
theorem dX11_recut_56 : decode cX11_recut 56 = .ok (.iload_n 3, 1) := by decide +kernel
theorem dX11_recut_57 : decode cX11_recut 57 = .ok (.invokestatic 162, 3) := by decide +kernel
theorem dX11_recut_60 : decode cX11_recut 60 = .ok (.ifCond .ne 7, 3) := by decide +kernel
theorem dX11_recut_63 : decode cX11_recut 63 = .ok (.iconst 2, 1) := by decide +kernel
theorem dX11_recut_64 : decode cX11_recut 64 = .ok (.goto 4, 3) := by decide +kernel
theorem dX11_recut_67 : decode cX11_recut 67 = .ok (.iconst 0, 1) := by decide +kernel
theorem dX11_recut_68 : decode cX11_recut 68 = .ok (.invokevirtual 76, 3) := by decide +kernel
theorem dX11_recut_71 : decode cX11_recut 71 = .ok (.ifCond .eq 5, 3) := by decide +kernel
theorem dX11_recut_74 : decode cX11_recut 74 = .ok (.iconst 0, 1) := by decide +kernel
theorem dX11_recut_75 : decode cX11_recut 75 = .ok (.ireturn, 1) := by decide +kernel
theorem dX11_recut_76 : decode cX11_recut 76 = .ok (.aload_n 0, 1) := by decide +kernel
theorem dX11_recut_77 : decode cX11_recut 77 = .ok (.invokevirtual 147, 3) := by decide +kernel
theorem dX11_recut_80 : decode cX11_recut 80 = .ok (.aload_n 0, 1) := by decide +kernel
theorem dX11_recut_81 : decode cX11_recut 81 = .ok (.getfield 16, 3) := by decide +kernel
theorem dX11_recut_84 : decode cX11_recut 84 = .ok (.iload_n 1, 1) := by decide +kernel
theorem dX11_recut_85 : decode cX11_recut 85 = .ok (.iload_n 2, 1) := by decide +kernel
theorem dX11_recut_86 : decode cX11_recut 86 = .ok (.iload_n 3, 1) := by decide +kernel
theorem dX11_recut_87 : decode cX11_recut 87 = .ok (.invokestatic 166, 3) := by decide +kernel
theorem dX11_recut_90 : decode cX11_recut 90 = .ok (.ireturn, 1) := by decide +kernel
theorem dX11_scrap_0 : decode cX11_scrap 0 = .ok (.aload_n 0, 1) := by decide +kernel
theorem dX11_scrap_1 : decode cX11_scrap 1 = .ok (.aload_n 0, 1) := by decide +kernel
theorem dX11_scrap_2 : decode cX11_scrap 2 = .ok (.getfield 16, 3) := by decide +kernel
theorem dX11_scrap_5 : decode cX11_scrap 5 = .ok (.iload_n 1, 1) := by decide +kernel
theorem dX11_scrap_6 : decode cX11_scrap 6 = .ok (.invokestatic 139, 3) := by decide +kernel
theorem dX11_scrap_9 : decode cX11_scrap 9 = .ok (.ifCond .ne 7, 3) := by decide +kernel
theorem dX11_scrap_12 : decode cX11_scrap 12 = .ok (.iconst 1, 1) := by decide +kernel
theorem dX11_scrap_13 : decode cX11_scrap 13 = .ok (.goto 26, 3) := by decide +kernel
theorem dX11_scrap_16 : decode cX11_scrap 16 = .ok (.aload_n 0, 1) := by decide +kernel
theorem dX11_scrap_17 : decode cX11_scrap 17 = .ok (.getfield 16, 3) := by decide +kernel
theorem dX11_scrap_20 : decode cX11_scrap 20 = .ok (.bipush 50, 2) := by decide +kernel
theorem dX11_scrap_22 : decode cX11_scrap 22 = .ok (.bipush 6, 2) := by decide +kernel
theorem dX11_scrap_24 : decode cX11_scrap 24 = .ok (.iload_n 1, 1) := by decide +kernel
theorem dX11_scrap_25 : decode cX11_scrap 25 = .ok (.imul, 1) := by decide +kernel
theorem dX11_scrap_26 : decode cX11_scrap 26 = .ok (.iadd, 1) := by decide +kernel
theorem dX11_scrap_27 : decode cX11_scrap 27 = .ok (.iconst 3, 1) := by decide +kernel
theorem dX11_scrap_28 : decode cX11_scrap 28 = .ok (.iadd, 1) := by decide +kernel
theorem dX11_scrap_29 : decode cX11_scrap 29 = .ok (.iaload, 1) := by decide +kernel
theorem dX11_scrap_30 : decode cX11_scrap 30 = .ok (.iconst 2, 1) := by decide +kernel
theorem dX11_scrap_31 : decode cX11_scrap 31 = .ok (.if_icmp .eq 7, 3) := by decide +kernel
theorem dX11_scrap_34 : decode cX11_scrap 34 = .ok (.iconst 2, 1) := by decide +kernel
theorem dX11_scrap_35 : decode cX11_scrap 35 = .ok (.goto 4, 3) := by decide +kernel
theorem dX11_scrap_38 : decode cX11_scrap 38 = .ok (.iconst 0, 1) := by decide +kernel
theorem dX11_scrap_39 : decode cX11_scrap 39 = .ok (.invokevirtual 76, 3) := by decide +kernel
theorem dX11_scrap_42 : decode cX11_scrap 42 = .ok (.ifCond .eq 5, 3) := by decide +kernel
theorem dX11_scrap_45 : decode cX11_scrap 45 = .ok (.iconst 0, 1) := by decide +kernel
theorem dX11_scrap_46 : decode cX11_scrap 46 = .ok (.ireturn, 1) := by decide +kernel
theorem dX11_scrap_47 : decode cX11_scrap 47 = .ok (.aload_n 0, 1) := by decide +kernel
theorem dX11_scrap_48 : decode cX11_scrap 48 = .ok (.invokevirtual 147, 3) := by decide +kernel
theorem dX11_scrap_51 : decode cX11_scrap 51 = .ok (.aload_n 0, 1) := by decide +kernel
theorem dX11_scrap_52 : decode cX11_scrap 52 = .ok (.getfield 16, 3) := by decide +kernel
theorem dX11_scrap_55 : decode cX11_scrap 55 = .ok (.bipush 50, 2) := by decide +kernel
theorem dX11_scrap_57 : decode cX11_scrap 57 = .ok (.bipush 6, 2) := by decide +kernel
theorem dX11_scrap_59 : decode cX11_scrap 59 = .ok (.iload_n 1, 1) := by decide +kernel
theorem dX11_scrap_60 : decode cX11_scrap 60 = .ok (.imul, 1) := by decide +kernel
theorem dX11_scrap_61 : decode cX11_scrap 61 = .ok (.iadd, 1) := by decide +kernel
theorem dX11_scrap_62 : decode cX11_scrap 62 = .ok (.iconst 3, 1) := by decide +kernel
theorem dX11_scrap_63 : decode cX11_scrap 63 = .ok (.iadd, 1) := by decide +kernel
theorem dX11_scrap_64 : decode cX11_scrap 64 = .ok (.iconst 4, 1) := by decide +kernel
theorem dX11_scrap_65 : decode cX11_scrap 65 = .ok (.iastore, 1) := by decide +kernel
theorem dX11_scrap_66 : decode cX11_scrap 66 = .ok (.aload_n 0, 1) := by decide +kernel
theorem dX11_scrap_67 : decode cX11_scrap 67 = .ok (.getfield 16, 3) := by decide +kernel
theorem dX11_scrap_70 : decode cX11_scrap 70 = .ok (.iconst 4, 1) := by decide +kernel
theorem dX11_scrap_71 : decode cX11_scrap 71 = .ok (.invokestatic 119, 3) := by decide +kernel
theorem dX11_scrap_74 : decode cX11_scrap 74 = .ok (.ireturn, 1) := by decide +kernel
theorem dX11_set_0 : decode cX11_set 0 = .ok (.aload_n 0, 1) := by decide +kernel
theorem dX11_set_1 : decode cX11_set 1 = .ok (.aload_n 0, 1) := by decide +kernel
theorem dX11_set_2 : decode cX11_set 2 = .ok (.getfield 16, 3) := by decide +kernel
theorem dX11_set_5 : decode cX11_set 5 = .ok (.iload_n 1, 1) := by decide +kernel
theorem dX11_set_6 : decode cX11_set 6 = .ok (.invokestatic 139, 3) := by decide +kernel
theorem dX11_set_9 : decode cX11_set 9 = .ok (.ifCond .ne 7, 3) := by decide +kernel
theorem dX11_set_12 : decode cX11_set 12 = .ok (.iconst 1, 1) := by decide +kernel
theorem dX11_set_13 : decode cX11_set 13 = .ok (.goto 19, 3) := by decide +kernel
theorem dX11_set_16 : decode cX11_set 16 = .ok (.aload_n 0, 1) := by decide +kernel
theorem dX11_set_17 : decode cX11_set 17 = .ok (.getfield 16, 3) := by decide +kernel
theorem dX11_set_20 : decode cX11_set 20 = .ok (.iload_n 1, 1) := by decide +kernel
theorem dX11_set_21 : decode cX11_set 21 = .ok (.invokestatic 142, 3) := by decide +kernel
theorem dX11_set_24 : decode cX11_set 24 = .ok (.ifCond .eq 7, 3) := by decide +kernel
theorem dX11_set_27 : decode cX11_set 27 = .ok (.iconst 2, 1) := by decide +kernel
theorem dX11_set_28 : decode cX11_set 28 = .ok (.goto 4, 3) := by decide +kernel
theorem dX11_set_31 : decode cX11_set 31 = .ok (.iconst 0, 1) := by decide +kernel
theorem dX11_set_32 : decode cX11_set 32 = .ok (.invokevirtual 76, 3) := by decide +kernel
theorem dX11_set_35 : decode cX11_set 35 = .ok (.ifCond .eq 5, 3) := by decide +kernel
theorem dX11_set_38 : decode cX11_set 38 = .ok (.iconst 0, 1) := by decide +kernel
theorem dX11_set_39 : decode cX11_set 39 = .ok (.ireturn, 1) := by decide +kernel
theorem dX11_set_40 : decode cX11_set 40 = .ok (.aload_n 0, 1) := by decide +kernel
theorem dX11_set_41 : decode cX11_set 41 = .ok (.invokevirtual 147, 3) := by decide +kernel
theorem dX11_set_44 : decode cX11_set 44 = .ok (.aload_n 0, 1) := by decide +kernel
theorem dX11_set_45 : decode cX11_set 45 = .ok (.getfield 16, 3) := by decide +kernel
theorem dX11_set_48 : decode cX11_set 48 = .ok (.bipush 50, 2) := by decide +kernel
theorem dX11_set_50 : decode cX11_set 50 = .ok (.bipush 6, 2) := by decide +kernel
theorem dX11_set_52 : decode cX11_set 52 = .ok (.iload_n 1, 1) := by decide +kernel
theorem dX11_set_53 : decode cX11_set 53 = .ok (.imul, 1) := by decide +kernel
theorem dX11_set_54 : decode cX11_set 54 = .ok (.iadd, 1) := by decide +kernel
theorem dX11_set_55 : decode cX11_set 55 = .ok (.iconst 3, 1) := by decide +kernel
theorem dX11_set_56 : decode cX11_set 56 = .ok (.iadd, 1) := by decide +kernel
theorem dX11_set_57 : decode cX11_set 57 = .ok (.iconst 3, 1) := by decide +kernel
theorem dX11_set_58 : decode cX11_set 58 = .ok (.iastore, 1) := by decide +kernel
theorem dX11_set_59 : decode cX11_set 59 = .ok (.aload_n 0, 1) := by decide +kernel
theorem dX11_set_60 : decode cX11_set 60 = .ok (.getfield 16, 3) := by decide +kernel
theorem dX11_set_63 : decode cX11_set 63 = .ok (.aload_n 0, 1) := by decide +kernel
theorem dX11_set_64 : decode cX11_set 64 = .ok (.getfield 16, 3) := by decide +kernel
theorem dX11_set_67 : decode cX11_set 67 = .ok (.bipush 50, 2) := by decide +kernel
theorem dX11_set_69 : decode cX11_set 69 = .ok (.bipush 6, 2) := by decide +kernel
theorem dX11_set_71 : decode cX11_set 71 = .ok (.iload_n 1, 1) := by decide +kernel
theorem dX11_set_72 : decode cX11_set 72 = .ok (.imul, 1) := by decide +kernel
theorem dX11_set_73 : decode cX11_set 73 = .ok (.iadd, 1) := by decide +kernel
theorem dX11_set_74 : decode cX11_set 74 = .ok (.iaload, 1) := by decide +kernel
theorem dX11_set_75 : decode cX11_set 75 = .ok (.iconst 3, 1) := by decide +kernel
theorem dX11_set_76 : decode cX11_set 76 = .ok (.invokestatic 43, 3) := by decide +kernel
theorem dX11_set_79 : decode cX11_set 79 = .ok (.ireturn, 1) := by decide +kernel
theorem dX11_pay_0 : decode cX11_pay 0 = .ok (.aload_n 0, 1) := by decide +kernel
theorem dX11_pay_1 : decode cX11_pay 1 = .ok (.iconst 0, 1) := by decide +kernel
theorem dX11_pay_2 : decode cX11_pay 2 = .ok (.putfield 35, 3) := by decide +kernel
theorem dX11_pay_5 : decode cX11_pay 5 = .ok (.aload_n 0, 1) := by decide +kernel
theorem dX11_pay_6 : decode cX11_pay 6 = .ok (.invokevirtual 147, 3) := by decide +kernel
theorem dX11_pay_9 : decode cX11_pay 9 = .ok (.aload_n 0, 1) := by decide +kernel
theorem dX11_pay_10 : decode cX11_pay 10 = .ok (.getfield 16, 3) := by decide +kernel
theorem dX11_pay_13 : decode cX11_pay 13 = .ok (.invokestatic 122, 3) := by decide +kernel
theorem dX11_pay_16 : decode cX11_pay 16 = .ok (.istore_n 1, 1) := by decide +kernel
theorem dX11_pay_17 : decode cX11_pay 17 = .ok (.iconst 0, 1) := by decide +kernel
theorem dX11_pay_18 : decode cX11_pay 18 = .ok (.istore_n 2, 1) := by decide +kernel
theorem dX11_pay_19 : decode cX11_pay 19 = .ok (.iload_n 2, 1) := by decide +kernel
theorem dX11_pay_20 : decode cX11_pay 20 = .ok (.aload_n 0, 1) := by decide +kernel
theorem dX11_pay_21 : decode cX11_pay 21 = .ok (.getfield 16, 3) := by decide +kernel
theorem dX11_pay_24 : decode cX11_pay 24 = .ok (.bipush 6, 2) := by decide +kernel
theorem dX11_pay_26 : decode cX11_pay 26 = .ok (.iaload, 1) := by decide +kernel
theorem dX11_pay_27 : decode cX11_pay 27 = .ok (.if_icmp .ge 23, 3) := by decide +kernel
theorem dX11_pay_30 : decode cX11_pay 30 = .ok (.aload_n 0, 1) := by decide +kernel
theorem dX11_pay_31 : decode cX11_pay 31 = .ok (.getfield 16, 3) := by decide +kernel
theorem dX11_pay_34 : decode cX11_pay 34 = .ok (.bipush 26, 2) := by decide +kernel
theorem dX11_pay_36 : decode cX11_pay 36 = .ok (.iconst 4, 1) := by decide +kernel
theorem dX11_pay_37 : decode cX11_pay 37 = .ok (.iload_n 2, 1) := by decide +kernel
theorem dX11_pay_38 : decode cX11_pay 38 = .ok (.imul, 1) := by decide +kernel
theorem dX11_pay_39 : decode cX11_pay 39 = .ok (.iadd, 1) := by decide +kernel
theorem dX11_pay_40 : decode cX11_pay 40 = .ok (.iconst 3, 1) := by decide +kernel
theorem dX11_pay_41 : decode cX11_pay 41 = .ok (.iadd, 1) := by decide +kernel
theorem dX11_pay_42 : decode cX11_pay 42 = .ok (.iconst 0, 1) := by decide +kernel
theorem dX11_pay_43 : decode cX11_pay 43 = .ok (.iastore, 1) := by decide +kernel
theorem dX11_pay_44 : decode cX11_pay 44 = .ok (.iinc 2 1, 3) := by decide +kernel
theorem dX11_pay_47 : decode cX11_pay 47 = .ok (.goto (-28), 3) := by decide +kernel
theorem dX11_pay_50 : decode cX11_pay 50 = .ok (.aload_n 0, 1) := by decide +kernel
theorem dX11_pay_51 : decode cX11_pay 51 = .ok (.getfield 16, 3) := by decide +kernel
theorem dX11_pay_54 : decode cX11_pay 54 = .ok (.iconst 3, 1) := by decide +kernel
theorem dX11_pay_55 : decode cX11_pay 55 = .ok (.dup2, 1) := by decide +kernel
theorem dX11_pay_56 : decode cX11_pay 56 = .ok (.iaload, 1) := by decide +kernel
theorem dX11_pay_57 : decode cX11_pay 57 = .ok (.iload_n 1, 1) := by decide +kernel
theorem dX11_pay_58 : decode cX11_pay 58 = .ok (.iadd, 1) := by decide +kernel
theorem dX11_pay_59 : decode cX11_pay 59 = .ok (.iastore, 1) := by decide +kernel
theorem dX11_pay_60 : decode cX11_pay 60 = .ok (.iload_n 1, 1) := by decide +kernel
theorem dX11_pay_61 : decode cX11_pay 61 = .ok (.ireturn, 1) := by decide +kernel
theorem dX11_nextDay_0 : decode cX11_nextDay 0 = .ok (.aload_n 0, 1) := by decide +kernel
theorem dX11_nextDay_1 : decode cX11_nextDay 1 = .ok (.iconst 0, 1) := by decide +kernel
theorem dX11_nextDay_2 : decode cX11_nextDay 2 = .ok (.putfield 35, 3) := by decide +kernel
theorem dX11_nextDay_5 : decode cX11_nextDay 5 = .ok (.aload_n 0, 1) := by decide +kernel
theorem dX11_nextDay_6 : decode cX11_nextDay 6 = .ok (.invokevirtual 147, 3) := by decide +kernel
theorem dX11_nextDay_9 : decode cX11_nextDay 9 = .ok (.aload_n 0, 1) := by decide +kernel
theorem dX11_nextDay_10 : decode cX11_nextDay 10 = .ok (.getfield 16, 3) := by decide +kernel
theorem dX11_nextDay_13 : decode cX11_nextDay 13 = .ok (.iload_n 1, 1) := by decide +kernel
theorem dX11_nextDay_14 : decode cX11_nextDay 14 = .ok (.ifCond .eq 7, 3) := by decide +kernel
theorem dX11_nextDay_17 : decode cX11_nextDay 17 = .ok (.iconst 1, 1) := by decide +kernel
theorem dX11_nextDay_18 : decode cX11_nextDay 18 = .ok (.goto 4, 3) := by decide +kernel
theorem dX11_nextDay_21 : decode cX11_nextDay 21 = .ok (.iconst 0, 1) := by decide +kernel
theorem dX11_nextDay_22 : decode cX11_nextDay 22 = .ok (.invokestatic 169, 3) := by decide +kernel
theorem dX11_nextDay_25 : decode cX11_nextDay 25 = .ok (.ireturn, 1) := by decide +kernel
theorem dX11_undo_0 : decode cX11_undo 0 = .ok (.aload_n 0, 1) := by decide +kernel
theorem dX11_undo_1 : decode cX11_undo 1 = .ok (.aload_n 0, 1) := by decide +kernel
theorem dX11_undo_2 : decode cX11_undo 2 = .ok (.getfield 114, 3) := by decide +kernel
theorem dX11_undo_5 : decode cX11_undo 5 = .ok (.ifCond .ne 7, 3) := by decide +kernel
theorem dX11_undo_8 : decode cX11_undo 8 = .ok (.iconst 1, 1) := by decide +kernel
theorem dX11_undo_9 : decode cX11_undo 9 = .ok (.goto 4, 3) := by decide +kernel
theorem dX11_undo_12 : decode cX11_undo 12 = .ok (.iconst 0, 1) := by decide +kernel
theorem dX11_undo_13 : decode cX11_undo 13 = .ok (.invokevirtual 76, 3) := by decide +kernel
theorem dX11_undo_16 : decode cX11_undo 16 = .ok (.ifCond .eq 5, 3) := by decide +kernel
theorem dX11_undo_19 : decode cX11_undo 19 = .ok (.iconst 0, 1) := by decide +kernel
theorem dX11_undo_20 : decode cX11_undo 20 = .ok (.ireturn, 1) := by decide +kernel
theorem dX11_undo_21 : decode cX11_undo 21 = .ok (.aload_n 0, 1) := by decide +kernel
theorem dX11_undo_22 : decode cX11_undo 22 = .ok (.dup, 1) := by decide +kernel
theorem dX11_undo_23 : decode cX11_undo 23 = .ok (.getfield 114, 3) := by decide +kernel
theorem dX11_undo_26 : decode cX11_undo 26 = .ok (.iconst 1, 1) := by decide +kernel
theorem dX11_undo_27 : decode cX11_undo 27 = .ok (.isub, 1) := by decide +kernel
theorem dX11_undo_28 : decode cX11_undo 28 = .ok (.putfield 114, 3) := by decide +kernel
theorem dX11_undo_31 : decode cX11_undo 31 = .ok (.aload_n 0, 1) := by decide +kernel
theorem dX11_undo_32 : decode cX11_undo 32 = .ok (.getfield 22, 3) := by decide +kernel
theorem dX11_undo_35 : decode cX11_undo 35 = .ok (.sipush 194, 3) := by decide +kernel
theorem dX11_undo_38 : decode cX11_undo 38 = .ok (.aload_n 0, 1) := by decide +kernel
theorem dX11_undo_39 : decode cX11_undo 39 = .ok (.getfield 114, 3) := by decide +kernel
theorem dX11_undo_42 : decode cX11_undo 42 = .ok (.imul, 1) := by decide +kernel
theorem dX11_undo_43 : decode cX11_undo 43 = .ok (.aload_n 0, 1) := by decide +kernel
theorem dX11_undo_44 : decode cX11_undo 44 = .ok (.getfield 16, 3) := by decide +kernel
theorem dX11_undo_47 : decode cX11_undo 47 = .ok (.iconst 0, 1) := by decide +kernel
theorem dX11_undo_48 : decode cX11_undo 48 = .ok (.invokestatic 110, 3) := by decide +kernel
theorem dX11_undo_51 : decode cX11_undo 51 = .ok (.aload_n 0, 1) := by decide +kernel
theorem dX11_undo_52 : decode cX11_undo 52 = .ok (.getfield 114, 3) := by decide +kernel
theorem dX11_undo_55 : decode cX11_undo 55 = .ok (.ireturn, 1) := by decide +kernel
theorem dX11_recutFor_0 : decode cX11_recutFor 0 = .ok (.aload_n 0, 1) := by decide +kernel
theorem dX11_recutFor_1 : decode cX11_recutFor 1 = .ok (.aload_n 0, 1) := by decide +kernel
theorem dX11_recutFor_2 : decode cX11_recutFor 2 = .ok (.getfield 16, 3) := by decide +kernel
theorem dX11_recutFor_5 : decode cX11_recutFor 5 = .ok (.iload_n 1, 1) := by decide +kernel
theorem dX11_recutFor_6 : decode cX11_recutFor 6 = .ok (.invokestatic 139, 3) := by decide +kernel
theorem dX11_recutFor_9 : decode cX11_recutFor 9 = .ok (.ifCond .eq 7, 3) := by decide +kernel
theorem dX11_recutFor_12 : decode cX11_recutFor 12 = .ok (.iconst 0, 1) := by decide +kernel
theorem dX11_recutFor_13 : decode cX11_recutFor 13 = .ok (.goto 4, 3) := by decide +kernel
theorem dX11_recutFor_16 : decode cX11_recutFor 16 = .ok (.iconst 1, 1) := by decide +kernel
theorem dX11_recutFor_17 : decode cX11_recutFor 17 = .ok (.invokevirtual 76, 3) := by decide +kernel
theorem dX11_recutFor_20 : decode cX11_recutFor 20 = .ok (.ifCond .eq 7, 3) := by decide +kernel
theorem dX11_recutFor_23 : decode cX11_recutFor 23 = .ok (.iconst 0, 1) := by decide +kernel
theorem dX11_recutFor_24 : decode cX11_recutFor 24 = .ok (.goto 11, 3) := by decide +kernel
theorem dX11_recutFor_27 : decode cX11_recutFor 27 = .ok (.aload_n 0, 1) := by decide +kernel
theorem dX11_recutFor_28 : decode cX11_recutFor 28 = .ok (.getfield 16, 3) := by decide +kernel
theorem dX11_recutFor_31 : decode cX11_recutFor 31 = .ok (.iload_n 1, 1) := by decide +kernel
theorem dX11_recutFor_32 : decode cX11_recutFor 32 = .ok (.invokestatic 172, 3) := by decide +kernel
theorem dX11_recutFor_35 : decode cX11_recutFor 35 = .ok (.ireturn, 1) := by decide +kernel
theorem dX11_cheapest_0 : decode cX11_cheapest 0 = .ok (.aload_n 0, 1) := by decide +kernel
theorem dX11_cheapest_1 : decode cX11_cheapest 1 = .ok (.aload_n 0, 1) := by decide +kernel
theorem dX11_cheapest_2 : decode cX11_cheapest 2 = .ok (.getfield 16, 3) := by decide +kernel
theorem dX11_cheapest_5 : decode cX11_cheapest 5 = .ok (.iload_n 1, 1) := by decide +kernel
theorem dX11_cheapest_6 : decode cX11_cheapest 6 = .ok (.invokestatic 126, 3) := by decide +kernel
theorem dX11_cheapest_9 : decode cX11_cheapest 9 = .ok (.ifCond .eq 7, 3) := by decide +kernel
theorem dX11_cheapest_12 : decode cX11_cheapest 12 = .ok (.iconst 0, 1) := by decide +kernel
theorem dX11_cheapest_13 : decode cX11_cheapest 13 = .ok (.goto 4, 3) := by decide +kernel
theorem dX11_cheapest_16 : decode cX11_cheapest 16 = .ok (.iconst 1, 1) := by decide +kernel
theorem dX11_cheapest_17 : decode cX11_cheapest 17 = .ok (.invokevirtual 76, 3) := by decide +kernel
theorem dX11_cheapest_20 : decode cX11_cheapest 20 = .ok (.ifCond .eq 5, 3) := by decide +kernel
theorem dX11_cheapest_23 : decode cX11_cheapest 23 = .ok (.iconst 0, 1) := by decide +kernel
theorem dX11_cheapest_24 : decode cX11_cheapest 24 = .ok (.ireturn, 1) := by decide +kernel
theorem dX11_cheapest_25 : decode cX11_cheapest 25 = .ok (.bipush (-9), 2) := by decide +kernel
theorem dX11_cheapest_27 : decode cX11_cheapest 27 = .ok (.istore_n 2, 1) := by decide +kernel
theorem dX11_cheapest_28 : decode cX11_cheapest 28 = .ok (.iconst 0, 1) := by decide +kernel
theorem dX11_cheapest_29 : decode cX11_cheapest 29 = .ok (.istore_n 3, 1) := by decide +kernel
theorem dX11_cheapest_30 : decode cX11_cheapest 30 = .ok (.iload_n 3, 1) := by decide +kernel
theorem dX11_cheapest_31 : decode cX11_cheapest 31 = .ok (.aload_n 0, 1) := by decide +kernel
theorem dX11_cheapest_32 : decode cX11_cheapest 32 = .ok (.getfield 16, 3) := by decide +kernel
theorem dX11_cheapest_35 : decode cX11_cheapest 35 = .ok (.bipush 6, 2) := by decide +kernel
theorem dX11_cheapest_37 : decode cX11_cheapest 37 = .ok (.iaload, 1) := by decide +kernel
theorem dX11_cheapest_38 : decode cX11_cheapest 38 = .ok (.if_icmp .ge 82, 3) := by decide +kernel
theorem dX11_cheapest_41 : decode cX11_cheapest 41 = .ok (.aload_n 0, 1) := by decide +kernel
theorem dX11_cheapest_42 : decode cX11_cheapest 42 = .ok (.getfield 16, 3) := by decide +kernel
theorem dX11_cheapest_45 : decode cX11_cheapest 45 = .ok (.bipush 26, 2) := by decide +kernel
theorem dX11_cheapest_47 : decode cX11_cheapest 47 = .ok (.iconst 4, 1) := by decide +kernel
theorem dX11_cheapest_48 : decode cX11_cheapest 48 = .ok (.iload_n 3, 1) := by decide +kernel
theorem dX11_cheapest_49 : decode cX11_cheapest 49 = .ok (.imul, 1) := by decide +kernel
theorem dX11_cheapest_50 : decode cX11_cheapest 50 = .ok (.iadd, 1) := by decide +kernel
theorem dX11_cheapest_51 : decode cX11_cheapest 51 = .ok (.iconst 2, 1) := by decide +kernel
theorem dX11_cheapest_52 : decode cX11_cheapest 52 = .ok (.iadd, 1) := by decide +kernel
theorem dX11_cheapest_53 : decode cX11_cheapest 53 = .ok (.iaload, 1) := by decide +kernel
theorem dX11_cheapest_54 : decode cX11_cheapest 54 = .ok (.aload_n 0, 1) := by decide +kernel
theorem dX11_cheapest_55 : decode cX11_cheapest 55 = .ok (.getfield 16, 3) := by decide +kernel
theorem dX11_cheapest_58 : decode cX11_cheapest 58 = .ok (.iload_n 1, 1) := by decide +kernel
theorem dX11_cheapest_59 : decode cX11_cheapest 59 = .ok (.invokestatic 51, 3) := by decide +kernel
theorem dX11_cheapest_62 : decode cX11_cheapest 62 = .ok (.if_icmp .lt 7, 3) := by decide +kernel
theorem dX11_cheapest_65 : decode cX11_cheapest 65 = .ok (.iconst 1, 1) := by decide +kernel
theorem dX11_cheapest_66 : decode cX11_cheapest 66 = .ok (.goto 4, 3) := by decide +kernel
theorem dX11_cheapest_69 : decode cX11_cheapest 69 = .ok (.iconst 0, 1) := by decide +kernel
theorem dX11_cheapest_70 : decode cX11_cheapest 70 = .ok (.istore 4, 2) := by decide +kernel
theorem dX11_cheapest_72 : decode cX11_cheapest 72 = .ok (.iload 4, 2) := by decide +kernel
theorem dX11_cheapest_74 : decode cX11_cheapest 74 = .ok (.ifCond .eq 38, 3) := by decide +kernel
theorem dX11_cheapest_77 : decode cX11_cheapest 77 = .ok (.iload_n 2, 1) := by decide +kernel
theorem dX11_cheapest_78 : decode cX11_cheapest 78 = .ok (.bipush (-9), 2) := by decide +kernel
theorem dX11_cheapest_80 : decode cX11_cheapest 80 = .ok (.if_icmp .eq 28, 3) := by decide +kernel
theorem dX11_cheapest_83 : decode cX11_cheapest 83 = .ok (.aload_n 0, 1) := by decide +kernel
theorem dX11_cheapest_84 : decode cX11_cheapest 84 = .ok (.getfield 16, 3) := by decide +kernel
theorem dX11_cheapest_87 : decode cX11_cheapest 87 = .ok (.bipush 26, 2) := by decide +kernel
theorem dX11_cheapest_89 : decode cX11_cheapest 89 = .ok (.iconst 4, 1) := by decide +kernel
theorem dX11_cheapest_90 : decode cX11_cheapest 90 = .ok (.iload_n 3, 1) := by decide +kernel
theorem dX11_cheapest_91 : decode cX11_cheapest 91 = .ok (.imul, 1) := by decide +kernel
theorem dX11_cheapest_92 : decode cX11_cheapest 92 = .ok (.iadd, 1) := by decide +kernel
theorem dX11_cheapest_93 : decode cX11_cheapest 93 = .ok (.iaload, 1) := by decide +kernel
theorem dX11_cheapest_94 : decode cX11_cheapest 94 = .ok (.aload_n 0, 1) := by decide +kernel
theorem dX11_cheapest_95 : decode cX11_cheapest 95 = .ok (.getfield 16, 3) := by decide +kernel
theorem dX11_cheapest_98 : decode cX11_cheapest 98 = .ok (.bipush 26, 2) := by decide +kernel
theorem dX11_cheapest_100 : decode cX11_cheapest 100 = .ok (.iconst 4, 1) := by decide +kernel
theorem dX11_cheapest_101 : decode cX11_cheapest 101 = .ok (.iload_n 2, 1) := by decide +kernel
theorem dX11_cheapest_102 : decode cX11_cheapest 102 = .ok (.imul, 1) := by decide +kernel
theorem dX11_cheapest_103 : decode cX11_cheapest 103 = .ok (.iadd, 1) := by decide +kernel
theorem dX11_cheapest_104 : decode cX11_cheapest 104 = .ok (.iaload, 1) := by decide +kernel
theorem dX11_cheapest_105 : decode cX11_cheapest 105 = .ok (.if_icmp .ge 7, 3) := by decide +kernel
theorem dX11_cheapest_108 : decode cX11_cheapest 108 = .ok (.iload_n 3, 1) := by decide +kernel
theorem dX11_cheapest_109 : decode cX11_cheapest 109 = .ok (.goto 4, 3) := by decide +kernel
theorem dX11_cheapest_112 : decode cX11_cheapest 112 = .ok (.iload_n 2, 1) := by decide +kernel
theorem dX11_cheapest_113 : decode cX11_cheapest 113 = .ok (.istore_n 2, 1) := by decide +kernel
theorem dX11_cheapest_114 : decode cX11_cheapest 114 = .ok (.iinc 3 1, 3) := by decide +kernel
theorem dX11_cheapest_117 : decode cX11_cheapest 117 = .ok (.goto (-87), 3) := by decide +kernel
theorem dX11_cheapest_120 : decode cX11_cheapest 120 = .ok (.iload_n 2, 1) := by decide +kernel
theorem dX11_cheapest_121 : decode cX11_cheapest 121 = .ok (.ireturn, 1) := by decide +kernel
theorem dX11_layLacking_0 : decode cX11_layLacking 0 = .ok (.iconst 0, 1) := by decide +kernel
theorem dX11_layLacking_1 : decode cX11_layLacking 1 = .ok (.istore_n 1, 1) := by decide +kernel
theorem dX11_layLacking_2 : decode cX11_layLacking 2 = .ok (.iconst 0, 1) := by decide +kernel
theorem dX11_layLacking_3 : decode cX11_layLacking 3 = .ok (.istore_n 2, 1) := by decide +kernel
theorem dX11_layLacking_4 : decode cX11_layLacking 4 = .ok (.iload_n 2, 1) := by decide +kernel
theorem dX11_layLacking_5 : decode cX11_layLacking 5 = .ok (.aload_n 0, 1) := by decide +kernel
theorem dX11_layLacking_6 : decode cX11_layLacking 6 = .ok (.getfield 16, 3) := by decide +kernel
theorem dX11_layLacking_9 : decode cX11_layLacking 9 = .ok (.iconst 5, 1) := by decide +kernel
theorem dX11_layLacking_10 : decode cX11_layLacking 10 = .ok (.iaload, 1) := by decide +kernel
theorem dX11_layLacking_11 : decode cX11_layLacking 11 = .ok (.if_icmp .ge 32, 3) := by decide +kernel
theorem dX11_layLacking_14 : decode cX11_layLacking 14 = .ok (.aload_n 0, 1) := by decide +kernel
theorem dX11_layLacking_15 : decode cX11_layLacking 15 = .ok (.getfield 32, 3) := by decide +kernel
theorem dX11_layLacking_18 : decode cX11_layLacking 18 = .ok (.iload_n 2, 1) := by decide +kernel
theorem dX11_layLacking_19 : decode cX11_layLacking 19 = .ok (.aload_n 0, 1) := by decide +kernel
theorem dX11_layLacking_20 : decode cX11_layLacking 20 = .ok (.getfield 16, 3) := by decide +kernel
theorem dX11_layLacking_23 : decode cX11_layLacking 23 = .ok (.iload_n 2, 1) := by decide +kernel
theorem dX11_layLacking_24 : decode cX11_layLacking 24 = .ok (.invokestatic 68, 3) := by decide +kernel
theorem dX11_layLacking_27 : decode cX11_layLacking 27 = .ok (.iastore, 1) := by decide +kernel
theorem dX11_layLacking_28 : decode cX11_layLacking 28 = .ok (.iload_n 1, 1) := by decide +kernel
theorem dX11_layLacking_29 : decode cX11_layLacking 29 = .ok (.aload_n 0, 1) := by decide +kernel
theorem dX11_layLacking_30 : decode cX11_layLacking 30 = .ok (.getfield 32, 3) := by decide +kernel
theorem dX11_layLacking_33 : decode cX11_layLacking 33 = .ok (.iload_n 2, 1) := by decide +kernel
theorem dX11_layLacking_34 : decode cX11_layLacking 34 = .ok (.iaload, 1) := by decide +kernel
theorem dX11_layLacking_35 : decode cX11_layLacking 35 = .ok (.iadd, 1) := by decide +kernel
theorem dX11_layLacking_36 : decode cX11_layLacking 36 = .ok (.istore_n 1, 1) := by decide +kernel
theorem dX11_layLacking_37 : decode cX11_layLacking 37 = .ok (.iinc 2 1, 3) := by decide +kernel
theorem dX11_layLacking_40 : decode cX11_layLacking 40 = .ok (.goto (-36), 3) := by decide +kernel
theorem dX11_layLacking_43 : decode cX11_layLacking 43 = .ok (.iload_n 1, 1) := by decide +kernel
theorem dX11_layLacking_44 : decode cX11_layLacking 44 = .ok (.ireturn, 1) := by decide +kernel
theorem dX11_costLeft_0 : decode cX11_costLeft 0 = .ok (.aload_n 0, 1) := by decide +kernel
theorem dX11_costLeft_1 : decode cX11_costLeft 1 = .ok (.iconst 0, 1) := by decide +kernel
theorem dX11_costLeft_2 : decode cX11_costLeft 2 = .ok (.putfield 35, 3) := by decide +kernel
theorem dX11_costLeft_5 : decode cX11_costLeft 5 = .ok (.aload_n 0, 1) := by decide +kernel
theorem dX11_costLeft_6 : decode cX11_costLeft 6 = .ok (.invokevirtual 175, 3) := by decide +kernel
theorem dX11_costLeft_9 : decode cX11_costLeft 9 = .ok (.istore_n 1, 1) := by decide +kernel
theorem dX11_costLeft_10 : decode cX11_costLeft 10 = .ok (.bipush 10, 2) := by decide +kernel
theorem dX11_costLeft_12 : decode cX11_costLeft 12 = .ok (.istore_n 2, 1) := by decide +kernel
theorem dX11_costLeft_13 : decode cX11_costLeft 13 = .ok (.iconst 0, 1) := by decide +kernel
theorem dX11_costLeft_14 : decode cX11_costLeft 14 = .ok (.istore_n 3, 1) := by decide +kernel
theorem dX11_costLeft_15 : decode cX11_costLeft 15 = .ok (.iload_n 3, 1) := by decide +kernel
theorem dX11_costLeft_16 : decode cX11_costLeft 16 = .ok (.aload_n 0, 1) := by decide +kernel
theorem dX11_costLeft_17 : decode cX11_costLeft 17 = .ok (.getfield 16, 3) := by decide +kernel
theorem dX11_costLeft_20 : decode cX11_costLeft 20 = .ok (.bipush 6, 2) := by decide +kernel
theorem dX11_costLeft_22 : decode cX11_costLeft 22 = .ok (.iaload, 1) := by decide +kernel
theorem dX11_costLeft_23 : decode cX11_costLeft 23 = .ok (.if_icmp .ge 40, 3) := by decide +kernel
theorem dX11_costLeft_26 : decode cX11_costLeft 26 = .ok (.aload_n 0, 1) := by decide +kernel
theorem dX11_costLeft_27 : decode cX11_costLeft 27 = .ok (.getfield 16, 3) := by decide +kernel
theorem dX11_costLeft_30 : decode cX11_costLeft 30 = .ok (.bipush 26, 2) := by decide +kernel
theorem dX11_costLeft_32 : decode cX11_costLeft 32 = .ok (.iconst 4, 1) := by decide +kernel
theorem dX11_costLeft_33 : decode cX11_costLeft 33 = .ok (.iload_n 3, 1) := by decide +kernel
theorem dX11_costLeft_34 : decode cX11_costLeft 34 = .ok (.imul, 1) := by decide +kernel
theorem dX11_costLeft_35 : decode cX11_costLeft 35 = .ok (.iadd, 1) := by decide +kernel
theorem dX11_costLeft_36 : decode cX11_costLeft 36 = .ok (.iaload, 1) := by decide +kernel
theorem dX11_costLeft_37 : decode cX11_costLeft 37 = .ok (.iload_n 2, 1) := by decide +kernel
theorem dX11_costLeft_38 : decode cX11_costLeft 38 = .ok (.if_icmp .ge 17, 3) := by decide +kernel
theorem dX11_costLeft_41 : decode cX11_costLeft 41 = .ok (.aload_n 0, 1) := by decide +kernel
theorem dX11_costLeft_42 : decode cX11_costLeft 42 = .ok (.getfield 16, 3) := by decide +kernel
theorem dX11_costLeft_45 : decode cX11_costLeft 45 = .ok (.bipush 26, 2) := by decide +kernel
theorem dX11_costLeft_47 : decode cX11_costLeft 47 = .ok (.iconst 4, 1) := by decide +kernel
theorem dX11_costLeft_48 : decode cX11_costLeft 48 = .ok (.iload_n 3, 1) := by decide +kernel
theorem dX11_costLeft_49 : decode cX11_costLeft 49 = .ok (.imul, 1) := by decide +kernel
theorem dX11_costLeft_50 : decode cX11_costLeft 50 = .ok (.iadd, 1) := by decide +kernel
theorem dX11_costLeft_51 : decode cX11_costLeft 51 = .ok (.iaload, 1) := by decide +kernel
theorem dX11_costLeft_52 : decode cX11_costLeft 52 = .ok (.goto 4, 3) := by decide +kernel
theorem dX11_costLeft_55 : decode cX11_costLeft 55 = .ok (.iload_n 2, 1) := by decide +kernel
theorem dX11_costLeft_56 : decode cX11_costLeft 56 = .ok (.istore_n 2, 1) := by decide +kernel
theorem dX11_costLeft_57 : decode cX11_costLeft 57 = .ok (.iinc 3 1, 3) := by decide +kernel
theorem dX11_costLeft_60 : decode cX11_costLeft 60 = .ok (.goto (-45), 3) := by decide +kernel
theorem dX11_costLeft_63 : decode cX11_costLeft 63 = .ok (.iconst 0, 1) := by decide +kernel
theorem dX11_costLeft_64 : decode cX11_costLeft 64 = .ok (.istore_n 3, 1) := by decide +kernel
theorem dX11_costLeft_65 : decode cX11_costLeft 65 = .ok (.iconst 0, 1) := by decide +kernel
theorem dX11_costLeft_66 : decode cX11_costLeft 66 = .ok (.istore 4, 2) := by decide +kernel
theorem dX11_costLeft_68 : decode cX11_costLeft 68 = .ok (.iload 4, 2) := by decide +kernel
theorem dX11_costLeft_70 : decode cX11_costLeft 70 = .ok (.aload_n 0, 1) := by decide +kernel
theorem dX11_costLeft_71 : decode cX11_costLeft 71 = .ok (.getfield 16, 3) := by decide +kernel
theorem dX11_costLeft_74 : decode cX11_costLeft 74 = .ok (.iconst 5, 1) := by decide +kernel
theorem dX11_costLeft_75 : decode cX11_costLeft 75 = .ok (.iaload, 1) := by decide +kernel
theorem dX11_costLeft_76 : decode cX11_costLeft 76 = .ok (.if_icmp .ge 31, 3) := by decide +kernel
theorem dX11_costLeft_79 : decode cX11_costLeft 79 = .ok (.iload_n 3, 1) := by decide +kernel
theorem dX11_costLeft_80 : decode cX11_costLeft 80 = .ok (.aload_n 0, 1) := by decide +kernel
theorem dX11_costLeft_81 : decode cX11_costLeft 81 = .ok (.getfield 32, 3) := by decide +kernel
theorem dX11_costLeft_84 : decode cX11_costLeft 84 = .ok (.iload 4, 2) := by decide +kernel
theorem dX11_costLeft_86 : decode cX11_costLeft 86 = .ok (.iaload, 1) := by decide +kernel
theorem dX11_costLeft_87 : decode cX11_costLeft 87 = .ok (.aload_n 0, 1) := by decide +kernel
theorem dX11_costLeft_88 : decode cX11_costLeft 88 = .ok (.getfield 16, 3) := by decide +kernel
theorem dX11_costLeft_91 : decode cX11_costLeft 91 = .ok (.iload 4, 2) := by decide +kernel
theorem dX11_costLeft_93 : decode cX11_costLeft 93 = .ok (.invokestatic 51, 3) := by decide +kernel
theorem dX11_costLeft_96 : decode cX11_costLeft 96 = .ok (.imul, 1) := by decide +kernel
theorem dX11_costLeft_97 : decode cX11_costLeft 97 = .ok (.iload_n 2, 1) := by decide +kernel
theorem dX11_costLeft_98 : decode cX11_costLeft 98 = .ok (.imul, 1) := by decide +kernel
theorem dX11_costLeft_99 : decode cX11_costLeft 99 = .ok (.iadd, 1) := by decide +kernel
theorem dX11_costLeft_100 : decode cX11_costLeft 100 = .ok (.istore_n 3, 1) := by decide +kernel
theorem dX11_costLeft_101 : decode cX11_costLeft 101 = .ok (.iinc 4 1, 3) := by decide +kernel
theorem dX11_costLeft_104 : decode cX11_costLeft 104 = .ok (.goto (-36), 3) := by decide +kernel
theorem dX11_costLeft_107 : decode cX11_costLeft 107 = .ok (.iload_n 1, 1) := by decide +kernel
theorem dX11_costLeft_108 : decode cX11_costLeft 108 = .ok (.ifCond .ne 7, 3) := by decide +kernel
theorem dX11_costLeft_111 : decode cX11_costLeft 111 = .ok (.iconst 0, 1) := by decide +kernel
theorem dX11_costLeft_112 : decode cX11_costLeft 112 = .ok (.goto 19, 3) := by decide +kernel
theorem dX11_costLeft_115 : decode cX11_costLeft 115 = .ok (.aload_n 0, 1) := by decide +kernel
theorem dX11_costLeft_116 : decode cX11_costLeft 116 = .ok (.getfield 16, 3) := by decide +kernel
theorem dX11_costLeft_119 : decode cX11_costLeft 119 = .ok (.bipush 6, 2) := by decide +kernel
theorem dX11_costLeft_121 : decode cX11_costLeft 121 = .ok (.iaload, 1) := by decide +kernel
theorem dX11_costLeft_122 : decode cX11_costLeft 122 = .ok (.ifCond .ne 8, 3) := by decide +kernel
theorem dX11_costLeft_125 : decode cX11_costLeft 125 = .ok (.bipush (-9), 2) := by decide +kernel
theorem dX11_costLeft_127 : decode cX11_costLeft 127 = .ok (.goto 4, 3) := by decide +kernel
theorem dX11_costLeft_130 : decode cX11_costLeft 130 = .ok (.iload_n 3, 1) := by decide +kernel
theorem dX11_costLeft_131 : decode cX11_costLeft 131 = .ok (.ireturn, 1) := by decide +kernel
theorem dX11_workOf_0 : decode cX11_workOf 0 = .ok (.iload_n 1, 1) := by decide +kernel
theorem dX11_workOf_1 : decode cX11_workOf 1 = .ok (.istore_n 2, 1) := by decide +kernel
theorem dX11_workOf_2 : decode cX11_workOf 2 = .ok (.iconst 0, 1) := by decide +kernel
theorem dX11_workOf_3 : decode cX11_workOf 3 = .ok (.istore_n 3, 1) := by decide +kernel
theorem dX11_workOf_4 : decode cX11_workOf 4 = .ok (.iconst 0, 1) := by decide +kernel
theorem dX11_workOf_5 : decode cX11_workOf 5 = .ok (.istore 4, 2) := by decide +kernel
theorem dX11_workOf_7 : decode cX11_workOf 7 = .ok (.iload 4, 2) := by decide +kernel
theorem dX11_workOf_9 : decode cX11_workOf 9 = .ok (.aload_n 0, 1) := by decide +kernel
theorem dX11_workOf_10 : decode cX11_workOf 10 = .ok (.getfield 16, 3) := by decide +kernel
theorem dX11_workOf_13 : decode cX11_workOf 13 = .ok (.iconst 5, 1) := by decide +kernel
theorem dX11_workOf_14 : decode cX11_workOf 14 = .ok (.iaload, 1) := by decide +kernel
theorem dX11_workOf_15 : decode cX11_workOf 15 = .ok (.if_icmp .ge 61, 3) := by decide +kernel
theorem dX11_workOf_18 : decode cX11_workOf 18 = .ok (.aload_n 0, 1) := by decide +kernel
theorem dX11_workOf_19 : decode cX11_workOf 19 = .ok (.getfield 32, 3) := by decide +kernel
theorem dX11_workOf_22 : decode cX11_workOf 22 = .ok (.iload 4, 2) := by decide +kernel
theorem dX11_workOf_24 : decode cX11_workOf 24 = .ok (.iaload, 1) := by decide +kernel
theorem dX11_workOf_25 : decode cX11_workOf 25 = .ok (.ifCond .le 45, 3) := by decide +kernel
theorem dX11_workOf_28 : decode cX11_workOf 28 = .ok (.aload_n 0, 1) := by decide +kernel
theorem dX11_workOf_29 : decode cX11_workOf 29 = .ok (.getfield 16, 3) := by decide +kernel
theorem dX11_workOf_32 : decode cX11_workOf 32 = .ok (.iload 4, 2) := by decide +kernel
theorem dX11_workOf_34 : decode cX11_workOf 34 = .ok (.invokestatic 51, 3) := by decide +kernel
theorem dX11_workOf_37 : decode cX11_workOf 37 = .ok (.iload_n 2, 1) := by decide +kernel
theorem dX11_workOf_38 : decode cX11_workOf 38 = .ok (.if_icmp .gt 32, 3) := by decide +kernel
theorem dX11_workOf_41 : decode cX11_workOf 41 = .ok (.iload_n 2, 1) := by decide +kernel
theorem dX11_workOf_42 : decode cX11_workOf 42 = .ok (.aload_n 0, 1) := by decide +kernel
theorem dX11_workOf_43 : decode cX11_workOf 43 = .ok (.getfield 16, 3) := by decide +kernel
theorem dX11_workOf_46 : decode cX11_workOf 46 = .ok (.iload 4, 2) := by decide +kernel
theorem dX11_workOf_48 : decode cX11_workOf 48 = .ok (.invokestatic 51, 3) := by decide +kernel
theorem dX11_workOf_51 : decode cX11_workOf 51 = .ok (.isub, 1) := by decide +kernel
theorem dX11_workOf_52 : decode cX11_workOf 52 = .ok (.istore_n 2, 1) := by decide +kernel
theorem dX11_workOf_53 : decode cX11_workOf 53 = .ok (.aload_n 0, 1) := by decide +kernel
theorem dX11_workOf_54 : decode cX11_workOf 54 = .ok (.getfield 32, 3) := by decide +kernel
theorem dX11_workOf_57 : decode cX11_workOf 57 = .ok (.iload 4, 2) := by decide +kernel
theorem dX11_workOf_59 : decode cX11_workOf 59 = .ok (.dup2, 1) := by decide +kernel
theorem dX11_workOf_60 : decode cX11_workOf 60 = .ok (.iaload, 1) := by decide +kernel
theorem dX11_workOf_61 : decode cX11_workOf 61 = .ok (.iconst 1, 1) := by decide +kernel
theorem dX11_workOf_62 : decode cX11_workOf 62 = .ok (.isub, 1) := by decide +kernel
theorem dX11_workOf_63 : decode cX11_workOf 63 = .ok (.iastore, 1) := by decide +kernel
theorem dX11_workOf_64 : decode cX11_workOf 64 = .ok (.iinc 3 1, 3) := by decide +kernel
theorem dX11_workOf_67 : decode cX11_workOf 67 = .ok (.goto (-60), 3) := by decide +kernel
theorem dX11_workOf_70 : decode cX11_workOf 70 = .ok (.iinc 4 1, 3) := by decide +kernel
theorem dX11_workOf_73 : decode cX11_workOf 73 = .ok (.goto (-66), 3) := by decide +kernel
theorem dX11_workOf_76 : decode cX11_workOf 76 = .ok (.iload_n 3, 1) := by decide +kernel
theorem dX11_workOf_77 : decode cX11_workOf 77 = .ok (.ireturn, 1) := by decide +kernel
theorem dX11_daysLeft_0 : decode cX11_daysLeft 0 = .ok (.aload_n 0, 1) := by decide +kernel
theorem dX11_daysLeft_1 : decode cX11_daysLeft 1 = .ok (.iconst 0, 1) := by decide +kernel
theorem dX11_daysLeft_2 : decode cX11_daysLeft 2 = .ok (.putfield 35, 3) := by decide +kernel
theorem dX11_daysLeft_5 : decode cX11_daysLeft 5 = .ok (.aload_n 0, 1) := by decide +kernel
theorem dX11_daysLeft_6 : decode cX11_daysLeft 6 = .ok (.invokevirtual 175, 3) := by decide +kernel
theorem dX11_daysLeft_9 : decode cX11_daysLeft 9 = .ok (.istore_n 1, 1) := by decide +kernel
theorem dX11_daysLeft_10 : decode cX11_daysLeft 10 = .ok (.iload_n 1, 1) := by decide +kernel
theorem dX11_daysLeft_11 : decode cX11_daysLeft 11 = .ok (.ifCond .ne 5, 3) := by decide +kernel
theorem dX11_daysLeft_14 : decode cX11_daysLeft 14 = .ok (.iconst 0, 1) := by decide +kernel
theorem dX11_daysLeft_15 : decode cX11_daysLeft 15 = .ok (.ireturn, 1) := by decide +kernel
theorem dX11_daysLeft_16 : decode cX11_daysLeft 16 = .ok (.iconst 1, 1) := by decide +kernel
theorem dX11_daysLeft_17 : decode cX11_daysLeft 17 = .ok (.istore_n 2, 1) := by decide +kernel
theorem dX11_daysLeft_18 : decode cX11_daysLeft 18 = .ok (.iload_n 2, 1) := by decide +kernel
theorem dX11_daysLeft_19 : decode cX11_daysLeft 19 = .ok (.bipush 99, 2) := by decide +kernel
theorem dX11_daysLeft_21 : decode cX11_daysLeft 21 = .ok (.if_icmp .gt 63, 3) := by decide +kernel
theorem dX11_daysLeft_24 : decode cX11_daysLeft 24 = .ok (.iconst 0, 1) := by decide +kernel
theorem dX11_daysLeft_25 : decode cX11_daysLeft 25 = .ok (.istore_n 3, 1) := by decide +kernel
theorem dX11_daysLeft_26 : decode cX11_daysLeft 26 = .ok (.iload_n 3, 1) := by decide +kernel
theorem dX11_daysLeft_27 : decode cX11_daysLeft 27 = .ok (.aload_n 0, 1) := by decide +kernel
theorem dX11_daysLeft_28 : decode cX11_daysLeft 28 = .ok (.getfield 16, 3) := by decide +kernel
theorem dX11_daysLeft_31 : decode cX11_daysLeft 31 = .ok (.bipush 6, 2) := by decide +kernel
theorem dX11_daysLeft_33 : decode cX11_daysLeft 33 = .ok (.iaload, 1) := by decide +kernel
theorem dX11_daysLeft_34 : decode cX11_daysLeft 34 = .ok (.if_icmp .ge 38, 3) := by decide +kernel
theorem dX11_daysLeft_37 : decode cX11_daysLeft 37 = .ok (.iload_n 1, 1) := by decide +kernel
theorem dX11_daysLeft_38 : decode cX11_daysLeft 38 = .ok (.aload_n 0, 1) := by decide +kernel
theorem dX11_daysLeft_39 : decode cX11_daysLeft 39 = .ok (.aload_n 0, 1) := by decide +kernel
theorem dX11_daysLeft_40 : decode cX11_daysLeft 40 = .ok (.getfield 16, 3) := by decide +kernel
theorem dX11_daysLeft_43 : decode cX11_daysLeft 43 = .ok (.bipush 26, 2) := by decide +kernel
theorem dX11_daysLeft_45 : decode cX11_daysLeft 45 = .ok (.iconst 4, 1) := by decide +kernel
theorem dX11_daysLeft_46 : decode cX11_daysLeft 46 = .ok (.iload_n 3, 1) := by decide +kernel
theorem dX11_daysLeft_47 : decode cX11_daysLeft 47 = .ok (.imul, 1) := by decide +kernel
theorem dX11_daysLeft_48 : decode cX11_daysLeft 48 = .ok (.iadd, 1) := by decide +kernel
theorem dX11_daysLeft_49 : decode cX11_daysLeft 49 = .ok (.iload_n 2, 1) := by decide +kernel
theorem dX11_daysLeft_50 : decode cX11_daysLeft 50 = .ok (.iconst 1, 1) := by decide +kernel
theorem dX11_daysLeft_51 : decode cX11_daysLeft 51 = .ok (.if_icmp .ne 7, 3) := by decide +kernel
theorem dX11_daysLeft_54 : decode cX11_daysLeft 54 = .ok (.iconst 2, 1) := by decide +kernel
theorem dX11_daysLeft_55 : decode cX11_daysLeft 55 = .ok (.goto 4, 3) := by decide +kernel
theorem dX11_daysLeft_58 : decode cX11_daysLeft 58 = .ok (.iconst 1, 1) := by decide +kernel
theorem dX11_daysLeft_59 : decode cX11_daysLeft 59 = .ok (.iadd, 1) := by decide +kernel
theorem dX11_daysLeft_60 : decode cX11_daysLeft 60 = .ok (.iaload, 1) := by decide +kernel
theorem dX11_daysLeft_61 : decode cX11_daysLeft 61 = .ok (.invokevirtual 179, 3) := by decide +kernel
theorem dX11_daysLeft_64 : decode cX11_daysLeft 64 = .ok (.isub, 1) := by decide +kernel
theorem dX11_daysLeft_65 : decode cX11_daysLeft 65 = .ok (.istore_n 1, 1) := by decide +kernel
theorem dX11_daysLeft_66 : decode cX11_daysLeft 66 = .ok (.iinc 3 1, 3) := by decide +kernel
theorem dX11_daysLeft_69 : decode cX11_daysLeft 69 = .ok (.goto (-43), 3) := by decide +kernel
theorem dX11_daysLeft_72 : decode cX11_daysLeft 72 = .ok (.iload_n 1, 1) := by decide +kernel
theorem dX11_daysLeft_73 : decode cX11_daysLeft 73 = .ok (.ifCond .ne 5, 3) := by decide +kernel
theorem dX11_daysLeft_76 : decode cX11_daysLeft 76 = .ok (.iload_n 2, 1) := by decide +kernel
theorem dX11_daysLeft_77 : decode cX11_daysLeft 77 = .ok (.ireturn, 1) := by decide +kernel
theorem dX11_daysLeft_78 : decode cX11_daysLeft 78 = .ok (.iinc 2 1, 3) := by decide +kernel
theorem dX11_daysLeft_81 : decode cX11_daysLeft 81 = .ok (.goto (-63), 3) := by decide +kernel
theorem dX11_daysLeft_84 : decode cX11_daysLeft 84 = .ok (.bipush (-9), 2) := by decide +kernel
theorem dX11_daysLeft_86 : decode cX11_daysLeft 86 = .ok (.ireturn, 1) := by decide +kernel
theorem dX11_canSet_0 : decode cX11_canSet 0 = .ok (.aload_n 0, 1) := by decide +kernel
theorem dX11_canSet_1 : decode cX11_canSet 1 = .ok (.iconst 0, 1) := by decide +kernel
theorem dX11_canSet_2 : decode cX11_canSet 2 = .ok (.putfield 35, 3) := by decide +kernel
theorem dX11_canSet_5 : decode cX11_canSet 5 = .ok (.iconst 0, 1) := by decide +kernel
theorem dX11_canSet_6 : decode cX11_canSet 6 = .ok (.istore_n 1, 1) := by decide +kernel
theorem dX11_canSet_7 : decode cX11_canSet 7 = .ok (.aload_n 0, 1) := by decide +kernel
theorem dX11_canSet_8 : decode cX11_canSet 8 = .ok (.getfield 16, 3) := by decide +kernel
theorem dX11_canSet_11 : decode cX11_canSet 11 = .ok (.iconst 2, 1) := by decide +kernel
theorem dX11_canSet_12 : decode cX11_canSet 12 = .ok (.iaload, 1) := by decide +kernel
theorem dX11_canSet_13 : decode cX11_canSet 13 = .ok (.ifCond .ne 7, 3) := by decide +kernel
theorem dX11_canSet_16 : decode cX11_canSet 16 = .ok (.iconst 1, 1) := by decide +kernel
theorem dX11_canSet_17 : decode cX11_canSet 17 = .ok (.goto 4, 3) := by decide +kernel
theorem dX11_canSet_20 : decode cX11_canSet 20 = .ok (.iconst 0, 1) := by decide +kernel
theorem dX11_canSet_21 : decode cX11_canSet 21 = .ok (.istore_n 2, 1) := by decide +kernel
theorem dX11_canSet_22 : decode cX11_canSet 22 = .ok (.iconst 0, 1) := by decide +kernel
theorem dX11_canSet_23 : decode cX11_canSet 23 = .ok (.istore_n 3, 1) := by decide +kernel
theorem dX11_canSet_24 : decode cX11_canSet 24 = .ok (.iload_n 3, 1) := by decide +kernel
theorem dX11_canSet_25 : decode cX11_canSet 25 = .ok (.aload_n 0, 1) := by decide +kernel
theorem dX11_canSet_26 : decode cX11_canSet 26 = .ok (.getfield 16, 3) := by decide +kernel
theorem dX11_canSet_29 : decode cX11_canSet 29 = .ok (.iconst 5, 1) := by decide +kernel
theorem dX11_canSet_30 : decode cX11_canSet 30 = .ok (.iaload, 1) := by decide +kernel
theorem dX11_canSet_31 : decode cX11_canSet 31 = .ok (.if_icmp .ge 74, 3) := by decide +kernel
theorem dX11_canSet_34 : decode cX11_canSet 34 = .ok (.iload_n 2, 1) := by decide +kernel
theorem dX11_canSet_35 : decode cX11_canSet 35 = .ok (.ifCond .eq 70, 3) := by decide +kernel
theorem dX11_canSet_38 : decode cX11_canSet 38 = .ok (.aload_n 0, 1) := by decide +kernel
theorem dX11_canSet_39 : decode cX11_canSet 39 = .ok (.getfield 16, 3) := by decide +kernel
theorem dX11_canSet_42 : decode cX11_canSet 42 = .ok (.iload_n 3, 1) := by decide +kernel
theorem dX11_canSet_43 : decode cX11_canSet 43 = .ok (.invokestatic 47, 3) := by decide +kernel
theorem dX11_canSet_46 : decode cX11_canSet 46 = .ok (.aload_n 0, 1) := by decide +kernel
theorem dX11_canSet_47 : decode cX11_canSet 47 = .ok (.getfield 16, 3) := by decide +kernel
theorem dX11_canSet_50 : decode cX11_canSet 50 = .ok (.iload_n 3, 1) := by decide +kernel
theorem dX11_canSet_51 : decode cX11_canSet 51 = .ok (.iconst 3, 1) := by decide +kernel
theorem dX11_canSet_52 : decode cX11_canSet 52 = .ok (.invokestatic 43, 3) := by decide +kernel
theorem dX11_canSet_55 : decode cX11_canSet 55 = .ok (.isub, 1) := by decide +kernel
theorem dX11_canSet_56 : decode cX11_canSet 56 = .ok (.istore 4, 2) := by decide +kernel
theorem dX11_canSet_58 : decode cX11_canSet 58 = .ok (.aload_n 0, 1) := by decide +kernel
theorem dX11_canSet_59 : decode cX11_canSet 59 = .ok (.getfield 16, 3) := by decide +kernel
theorem dX11_canSet_62 : decode cX11_canSet 62 = .ok (.iload_n 3, 1) := by decide +kernel
theorem dX11_canSet_63 : decode cX11_canSet 63 = .ok (.iconst 1, 1) := by decide +kernel
theorem dX11_canSet_64 : decode cX11_canSet 64 = .ok (.invokestatic 43, 3) := by decide +kernel
theorem dX11_canSet_67 : decode cX11_canSet 67 = .ok (.istore 5, 2) := by decide +kernel
theorem dX11_canSet_69 : decode cX11_canSet 69 = .ok (.iload_n 1, 1) := by decide +kernel
theorem dX11_canSet_70 : decode cX11_canSet 70 = .ok (.iload 5, 2) := by decide +kernel
theorem dX11_canSet_72 : decode cX11_canSet 72 = .ok (.iload 4, 2) := by decide +kernel
theorem dX11_canSet_74 : decode cX11_canSet 74 = .ok (.if_icmp .ge 8, 3) := by decide +kernel
theorem dX11_canSet_77 : decode cX11_canSet 77 = .ok (.iload 5, 2) := by decide +kernel
theorem dX11_canSet_79 : decode cX11_canSet 79 = .ok (.goto 5, 3) := by decide +kernel
theorem dX11_canSet_82 : decode cX11_canSet 82 = .ok (.iload 4, 2) := by decide +kernel
theorem dX11_canSet_84 : decode cX11_canSet 84 = .ok (.iadd, 1) := by decide +kernel
theorem dX11_canSet_85 : decode cX11_canSet 85 = .ok (.istore_n 1, 1) := by decide +kernel
theorem dX11_canSet_86 : decode cX11_canSet 86 = .ok (.iload 5, 2) := by decide +kernel
theorem dX11_canSet_88 : decode cX11_canSet 88 = .ok (.iload 4, 2) := by decide +kernel
theorem dX11_canSet_90 : decode cX11_canSet 90 = .ok (.if_icmp .lt 7, 3) := by decide +kernel
theorem dX11_canSet_93 : decode cX11_canSet 93 = .ok (.iconst 1, 1) := by decide +kernel
theorem dX11_canSet_94 : decode cX11_canSet 94 = .ok (.goto 4, 3) := by decide +kernel
theorem dX11_canSet_97 : decode cX11_canSet 97 = .ok (.iconst 0, 1) := by decide +kernel
theorem dX11_canSet_98 : decode cX11_canSet 98 = .ok (.istore_n 2, 1) := by decide +kernel
theorem dX11_canSet_99 : decode cX11_canSet 99 = .ok (.iinc 3 1, 3) := by decide +kernel
theorem dX11_canSet_102 : decode cX11_canSet 102 = .ok (.goto (-78), 3) := by decide +kernel
theorem dX11_canSet_105 : decode cX11_canSet 105 = .ok (.iload_n 1, 1) := by decide +kernel
theorem dX11_canSet_106 : decode cX11_canSet 106 = .ok (.ireturn, 1) := by decide +kernel
theorem dX11_wouldEarn_0 : decode cX11_wouldEarn 0 = .ok (.aload_n 0, 1) := by decide +kernel
theorem dX11_wouldEarn_1 : decode cX11_wouldEarn 1 = .ok (.iload_n 1, 1) := by decide +kernel
theorem dX11_wouldEarn_2 : decode cX11_wouldEarn 2 = .ok (.i2l, 1) := by decide +kernel
theorem dX11_wouldEarn_3 : decode cX11_wouldEarn 3 = .ok (.lconst 0, 1) := by decide +kernel
theorem dX11_wouldEarn_4 : decode cX11_wouldEarn 4 = .ok (.ldc2_w 145, 3) := by decide +kernel
theorem dX11_wouldEarn_7 : decode cX11_wouldEarn 7 = .ok (.invokestatic 39, 3) := by decide +kernel
theorem dX11_wouldEarn_10 : decode cX11_wouldEarn 10 = .ok (.ifCond .eq 7, 3) := by decide +kernel
theorem dX11_wouldEarn_13 : decode cX11_wouldEarn 13 = .ok (.iconst 0, 1) := by decide +kernel
theorem dX11_wouldEarn_14 : decode cX11_wouldEarn 14 = .ok (.goto 4, 3) := by decide +kernel
theorem dX11_wouldEarn_17 : decode cX11_wouldEarn 17 = .ok (.iconst 1, 1) := by decide +kernel
theorem dX11_wouldEarn_18 : decode cX11_wouldEarn 18 = .ok (.invokevirtual 76, 3) := by decide +kernel
theorem dX11_wouldEarn_21 : decode cX11_wouldEarn 21 = .ok (.ifCond .eq 5, 3) := by decide +kernel
theorem dX11_wouldEarn_24 : decode cX11_wouldEarn 24 = .ok (.iconst 0, 1) := by decide +kernel
theorem dX11_wouldEarn_25 : decode cX11_wouldEarn 25 = .ok (.ireturn, 1) := by decide +kernel
theorem dX11_wouldEarn_26 : decode cX11_wouldEarn 26 = .ok (.iconst 0, 1) := by decide +kernel
theorem dX11_wouldEarn_27 : decode cX11_wouldEarn 27 = .ok (.istore_n 2, 1) := by decide +kernel
theorem dX11_wouldEarn_28 : decode cX11_wouldEarn 28 = .ok (.iconst 0, 1) := by decide +kernel
theorem dX11_wouldEarn_29 : decode cX11_wouldEarn 29 = .ok (.istore_n 3, 1) := by decide +kernel
theorem dX11_wouldEarn_30 : decode cX11_wouldEarn 30 = .ok (.iload_n 3, 1) := by decide +kernel
theorem dX11_wouldEarn_31 : decode cX11_wouldEarn 31 = .ok (.aload_n 0, 1) := by decide +kernel
theorem dX11_wouldEarn_32 : decode cX11_wouldEarn 32 = .ok (.getfield 16, 3) := by decide +kernel
theorem dX11_wouldEarn_35 : decode cX11_wouldEarn 35 = .ok (.bipush 7, 2) := by decide +kernel
theorem dX11_wouldEarn_37 : decode cX11_wouldEarn 37 = .ok (.iaload, 1) := by decide +kernel
theorem dX11_wouldEarn_38 : decode cX11_wouldEarn 38 = .ok (.if_icmp .ge 58, 3) := by decide +kernel
theorem dX11_wouldEarn_41 : decode cX11_wouldEarn 41 = .ok (.bipush 50, 2) := by decide +kernel
theorem dX11_wouldEarn_43 : decode cX11_wouldEarn 43 = .ok (.bipush 6, 2) := by decide +kernel
theorem dX11_wouldEarn_45 : decode cX11_wouldEarn 45 = .ok (.iload_n 3, 1) := by decide +kernel
theorem dX11_wouldEarn_46 : decode cX11_wouldEarn 46 = .ok (.imul, 1) := by decide +kernel
theorem dX11_wouldEarn_47 : decode cX11_wouldEarn 47 = .ok (.iadd, 1) := by decide +kernel
theorem dX11_wouldEarn_48 : decode cX11_wouldEarn 48 = .ok (.istore 4, 2) := by decide +kernel
theorem dX11_wouldEarn_50 : decode cX11_wouldEarn 50 = .ok (.iload_n 2, 1) := by decide +kernel
theorem dX11_wouldEarn_51 : decode cX11_wouldEarn 51 = .ok (.aload_n 0, 1) := by decide +kernel
theorem dX11_wouldEarn_52 : decode cX11_wouldEarn 52 = .ok (.getfield 16, 3) := by decide +kernel
theorem dX11_wouldEarn_55 : decode cX11_wouldEarn 55 = .ok (.iload 4, 2) := by decide +kernel
theorem dX11_wouldEarn_57 : decode cX11_wouldEarn 57 = .ok (.iconst 3, 1) := by decide +kernel
theorem dX11_wouldEarn_58 : decode cX11_wouldEarn 58 = .ok (.iadd, 1) := by decide +kernel
theorem dX11_wouldEarn_59 : decode cX11_wouldEarn 59 = .ok (.iaload, 1) := by decide +kernel
theorem dX11_wouldEarn_60 : decode cX11_wouldEarn 60 = .ok (.ifCond .ne 27, 3) := by decide +kernel
theorem dX11_wouldEarn_63 : decode cX11_wouldEarn 63 = .ok (.aload_n 0, 1) := by decide +kernel
theorem dX11_wouldEarn_64 : decode cX11_wouldEarn 64 = .ok (.getfield 16, 3) := by decide +kernel
theorem dX11_wouldEarn_67 : decode cX11_wouldEarn 67 = .ok (.iload 4, 2) := by decide +kernel
theorem dX11_wouldEarn_69 : decode cX11_wouldEarn 69 = .ok (.iconst 2, 1) := by decide +kernel
theorem dX11_wouldEarn_70 : decode cX11_wouldEarn 70 = .ok (.iadd, 1) := by decide +kernel
theorem dX11_wouldEarn_71 : decode cX11_wouldEarn 71 = .ok (.iaload, 1) := by decide +kernel
theorem dX11_wouldEarn_72 : decode cX11_wouldEarn 72 = .ok (.iload_n 1, 1) := by decide +kernel
theorem dX11_wouldEarn_73 : decode cX11_wouldEarn 73 = .ok (.if_icmp .gt 14, 3) := by decide +kernel
theorem dX11_wouldEarn_76 : decode cX11_wouldEarn 76 = .ok (.aload_n 0, 1) := by decide +kernel
theorem dX11_wouldEarn_77 : decode cX11_wouldEarn 77 = .ok (.getfield 16, 3) := by decide +kernel
theorem dX11_wouldEarn_80 : decode cX11_wouldEarn 80 = .ok (.iload_n 3, 1) := by decide +kernel
theorem dX11_wouldEarn_81 : decode cX11_wouldEarn 81 = .ok (.invokestatic 58, 3) := by decide +kernel
theorem dX11_wouldEarn_84 : decode cX11_wouldEarn 84 = .ok (.goto 4, 3) := by decide +kernel
theorem dX11_wouldEarn_87 : decode cX11_wouldEarn 87 = .ok (.iconst 0, 1) := by decide +kernel
theorem dX11_wouldEarn_88 : decode cX11_wouldEarn 88 = .ok (.iadd, 1) := by decide +kernel
theorem dX11_wouldEarn_89 : decode cX11_wouldEarn 89 = .ok (.istore_n 2, 1) := by decide +kernel
theorem dX11_wouldEarn_90 : decode cX11_wouldEarn 90 = .ok (.iinc 3 1, 3) := by decide +kernel
theorem dX11_wouldEarn_93 : decode cX11_wouldEarn 93 = .ok (.goto (-63), 3) := by decide +kernel
theorem dX11_wouldEarn_96 : decode cX11_wouldEarn 96 = .ok (.iload_n 2, 1) := by decide +kernel
theorem dX11_wouldEarn_97 : decode cX11_wouldEarn 97 = .ok (.ireturn, 1) := by decide +kernel
theorem dX11_worstMark_0 : decode cX11_worstMark 0 = .ok (.aload_n 0, 1) := by decide +kernel
theorem dX11_worstMark_1 : decode cX11_worstMark 1 = .ok (.iconst 0, 1) := by decide +kernel
theorem dX11_worstMark_2 : decode cX11_worstMark 2 = .ok (.putfield 35, 3) := by decide +kernel
theorem dX11_worstMark_5 : decode cX11_worstMark 5 = .ok (.bipush (-9), 2) := by decide +kernel
theorem dX11_worstMark_7 : decode cX11_worstMark 7 = .ok (.istore_n 1, 1) := by decide +kernel
theorem dX11_worstMark_8 : decode cX11_worstMark 8 = .ok (.iconst 0, 1) := by decide +kernel
theorem dX11_worstMark_9 : decode cX11_worstMark 9 = .ok (.istore_n 2, 1) := by decide +kernel
theorem dX11_worstMark_10 : decode cX11_worstMark 10 = .ok (.iconst 0, 1) := by decide +kernel
theorem dX11_worstMark_11 : decode cX11_worstMark 11 = .ok (.istore_n 3, 1) := by decide +kernel
theorem dX11_worstMark_12 : decode cX11_worstMark 12 = .ok (.iload_n 3, 1) := by decide +kernel
theorem dX11_worstMark_13 : decode cX11_worstMark 13 = .ok (.aload_n 0, 1) := by decide +kernel
theorem dX11_worstMark_14 : decode cX11_worstMark 14 = .ok (.getfield 16, 3) := by decide +kernel
theorem dX11_worstMark_17 : decode cX11_worstMark 17 = .ok (.bipush 6, 2) := by decide +kernel
theorem dX11_worstMark_19 : decode cX11_worstMark 19 = .ok (.iaload, 1) := by decide +kernel
theorem dX11_worstMark_20 : decode cX11_worstMark 20 = .ok (.if_icmp .ge 55, 3) := by decide +kernel
theorem dX11_worstMark_23 : decode cX11_worstMark 23 = .ok (.aload_n 0, 1) := by decide +kernel
theorem dX11_worstMark_24 : decode cX11_worstMark 24 = .ok (.getfield 16, 3) := by decide +kernel
theorem dX11_worstMark_27 : decode cX11_worstMark 27 = .ok (.iload_n 3, 1) := by decide +kernel
theorem dX11_worstMark_28 : decode cX11_worstMark 28 = .ok (.iconst 2, 1) := by decide +kernel
theorem dX11_worstMark_29 : decode cX11_worstMark 29 = .ok (.invokestatic 136, 3) := by decide +kernel
theorem dX11_worstMark_32 : decode cX11_worstMark 32 = .ok (.aload_n 0, 1) := by decide +kernel
theorem dX11_worstMark_33 : decode cX11_worstMark 33 = .ok (.getfield 16, 3) := by decide +kernel
theorem dX11_worstMark_36 : decode cX11_worstMark 36 = .ok (.iload_n 3, 1) := by decide +kernel
theorem dX11_worstMark_37 : decode cX11_worstMark 37 = .ok (.iconst 4, 1) := by decide +kernel
theorem dX11_worstMark_38 : decode cX11_worstMark 38 = .ok (.invokestatic 136, 3) := by decide +kernel
theorem dX11_worstMark_41 : decode cX11_worstMark 41 = .ok (.iadd, 1) := by decide +kernel
theorem dX11_worstMark_42 : decode cX11_worstMark 42 = .ok (.istore 4, 2) := by decide +kernel
theorem dX11_worstMark_44 : decode cX11_worstMark 44 = .ok (.iload 4, 2) := by decide +kernel
theorem dX11_worstMark_46 : decode cX11_worstMark 46 = .ok (.iload_n 2, 1) := by decide +kernel
theorem dX11_worstMark_47 : decode cX11_worstMark 47 = .ok (.if_icmp .le 7, 3) := by decide +kernel
theorem dX11_worstMark_50 : decode cX11_worstMark 50 = .ok (.iload_n 3, 1) := by decide +kernel
theorem dX11_worstMark_51 : decode cX11_worstMark 51 = .ok (.goto 4, 3) := by decide +kernel
theorem dX11_worstMark_54 : decode cX11_worstMark 54 = .ok (.iload_n 1, 1) := by decide +kernel
theorem dX11_worstMark_55 : decode cX11_worstMark 55 = .ok (.istore_n 1, 1) := by decide +kernel
theorem dX11_worstMark_56 : decode cX11_worstMark 56 = .ok (.iload 4, 2) := by decide +kernel
theorem dX11_worstMark_58 : decode cX11_worstMark 58 = .ok (.iload_n 2, 1) := by decide +kernel
theorem dX11_worstMark_59 : decode cX11_worstMark 59 = .ok (.if_icmp .le 8, 3) := by decide +kernel
theorem dX11_worstMark_62 : decode cX11_worstMark 62 = .ok (.iload 4, 2) := by decide +kernel
theorem dX11_worstMark_64 : decode cX11_worstMark 64 = .ok (.goto 4, 3) := by decide +kernel
theorem dX11_worstMark_67 : decode cX11_worstMark 67 = .ok (.iload_n 2, 1) := by decide +kernel
theorem dX11_worstMark_68 : decode cX11_worstMark 68 = .ok (.istore_n 2, 1) := by decide +kernel
theorem dX11_worstMark_69 : decode cX11_worstMark 69 = .ok (.iinc 3 1, 3) := by decide +kernel
theorem dX11_worstMark_72 : decode cX11_worstMark 72 = .ok (.goto (-60), 3) := by decide +kernel
theorem dX11_worstMark_75 : decode cX11_worstMark 75 = .ok (.iload_n 1, 1) := by decide +kernel
theorem dX11_worstMark_76 : decode cX11_worstMark 76 = .ok (.ireturn, 1) := by decide +kernel
theorem dX11_does_0 : decode cX11_does 0 = .ok (.bipush 10, 2) := by decide +kernel
theorem dX11_does_2 : decode cX11_does 2 = .ok (.iload 4, 2) := by decide +kernel
theorem dX11_does_4 : decode cX11_does 4 = .ok (.imul, 1) := by decide +kernel
theorem dX11_does_5 : decode cX11_does 5 = .ok (.iload 5, 2) := by decide +kernel
theorem dX11_does_7 : decode cX11_does 7 = .ok (.iadd, 1) := by decide +kernel
theorem dX11_does_8 : decode cX11_does 8 = .ok (.istore 6, 2) := by decide +kernel
theorem dX11_does_10 : decode cX11_does 10 = .ok (.aload_n 0, 1) := by decide +kernel
theorem dX11_does_11 : decode cX11_does 11 = .ok (.getfield 19, 3) := by decide +kernel
theorem dX11_does_14 : decode cX11_does 14 = .ok (.iload 6, 2) := by decide +kernel
theorem dX11_does_16 : decode cX11_does 16 = .ok (.invokestatic 139, 3) := by decide +kernel
theorem dX11_does_19 : decode cX11_does 19 = .ok (.istore 7, 2) := by decide +kernel
theorem dX11_does_21 : decode cX11_does 21 = .ok (.iload_n 1, 1) := by decide +kernel
theorem dX11_does_22 : decode cX11_does 22 = .ok (.tableswitch 425 1 9 #[50, 111, 154, 211, 254, 287, 308, 358, 387], 50) := by decide +kernel
theorem dX11_does_72 : decode cX11_does 72 = .ok (.iload 5, 2) := by decide +kernel
theorem dX11_does_74 : decode cX11_does 74 = .ok (.ifCond .ne 37, 3) := by decide +kernel
theorem dX11_does_77 : decode cX11_does 77 = .ok (.aload_n 0, 1) := by decide +kernel
theorem dX11_does_78 : decode cX11_does 78 = .ok (.getfield 19, 3) := by decide +kernel
theorem dX11_does_81 : decode cX11_does 81 = .ok (.iload_n 2, 1) := by decide +kernel
theorem dX11_does_82 : decode cX11_does 82 = .ok (.invokestatic 131, 3) := by decide +kernel
theorem dX11_does_85 : decode cX11_does 85 = .ok (.ifCond .eq 26, 3) := by decide +kernel
theorem dX11_does_88 : decode cX11_does 88 = .ok (.aload_n 0, 1) := by decide +kernel
theorem dX11_does_89 : decode cX11_does 89 = .ok (.getfield 19, 3) := by decide +kernel
theorem dX11_does_92 : decode cX11_does 92 = .ok (.iload_n 3, 1) := by decide +kernel
theorem dX11_does_93 : decode cX11_does 93 = .ok (.invokestatic 126, 3) := by decide +kernel
theorem dX11_does_96 : decode cX11_does 96 = .ok (.ifCond .eq 15, 3) := by decide +kernel
theorem dX11_does_99 : decode cX11_does 99 = .ok (.aload_n 0, 1) := by decide +kernel
theorem dX11_does_100 : decode cX11_does 100 = .ok (.getfield 19, 3) := by decide +kernel
theorem dX11_does_103 : decode cX11_does 103 = .ok (.iload_n 2, 1) := by decide +kernel
theorem dX11_does_104 : decode cX11_does 104 = .ok (.iload_n 3, 1) := by decide +kernel
theorem dX11_does_105 : decode cX11_does 105 = .ok (.invokestatic 152, 3) := by decide +kernel
theorem dX11_does_108 : decode cX11_does 108 = .ok (.ifCond .ne 5, 3) := by decide +kernel
theorem dX11_does_111 : decode cX11_does 111 = .ok (.iconst 0, 1) := by decide +kernel
theorem dX11_does_112 : decode cX11_does 112 = .ok (.ireturn, 1) := by decide +kernel
theorem dX11_does_113 : decode cX11_does 113 = .ok (.aload_n 0, 1) := by decide +kernel
theorem dX11_does_114 : decode cX11_does 114 = .ok (.getfield 19, 3) := by decide +kernel
theorem dX11_does_117 : decode cX11_does 117 = .ok (.iload_n 2, 1) := by decide +kernel
theorem dX11_does_118 : decode cX11_does 118 = .ok (.iload_n 3, 1) := by decide +kernel
theorem dX11_does_119 : decode cX11_does 119 = .ok (.iload 4, 2) := by decide +kernel
theorem dX11_does_121 : decode cX11_does 121 = .ok (.invokestatic 156, 3) := by decide +kernel
theorem dX11_does_124 : decode cX11_does 124 = .ok (.ifCond .lt 7, 3) := by decide +kernel
theorem dX11_does_127 : decode cX11_does 127 = .ok (.iconst 1, 1) := by decide +kernel
theorem dX11_does_128 : decode cX11_does 128 = .ok (.goto 4, 3) := by decide +kernel
theorem dX11_does_131 : decode cX11_does 131 = .ok (.iconst 0, 1) := by decide +kernel
theorem dX11_does_132 : decode cX11_does 132 = .ok (.ireturn, 1) := by decide +kernel
theorem dX11_does_133 : decode cX11_does 133 = .ok (.iload_n 2, 1) := by decide +kernel
theorem dX11_does_134 : decode cX11_does 134 = .ok (.iload_n 3, 1) := by decide +kernel
theorem dX11_does_135 : decode cX11_does 135 = .ok (.iadd, 1) := by decide +kernel
theorem dX11_does_136 : decode cX11_does 136 = .ok (.ifCond .gt 26, 3) := by decide +kernel
theorem dX11_does_139 : decode cX11_does 139 = .ok (.iload 7, 2) := by decide +kernel
theorem dX11_does_141 : decode cX11_does 141 = .ok (.ifCond .eq 21, 3) := by decide +kernel
theorem dX11_does_144 : decode cX11_does 144 = .ok (.aload_n 0, 1) := by decide +kernel
theorem dX11_does_145 : decode cX11_does 145 = .ok (.getfield 19, 3) := by decide +kernel
theorem dX11_does_148 : decode cX11_does 148 = .ok (.bipush 50, 2) := by decide +kernel
theorem dX11_does_150 : decode cX11_does 150 = .ok (.bipush 6, 2) := by decide +kernel
theorem dX11_does_152 : decode cX11_does 152 = .ok (.iload 6, 2) := by decide +kernel
theorem dX11_does_154 : decode cX11_does 154 = .ok (.imul, 1) := by decide +kernel
theorem dX11_does_155 : decode cX11_does 155 = .ok (.iadd, 1) := by decide +kernel
theorem dX11_does_156 : decode cX11_does 156 = .ok (.iconst 3, 1) := by decide +kernel
theorem dX11_does_157 : decode cX11_does 157 = .ok (.iadd, 1) := by decide +kernel
theorem dX11_does_158 : decode cX11_does 158 = .ok (.iaload, 1) := by decide +kernel
theorem dX11_does_159 : decode cX11_does 159 = .ok (.ifCond .eq 5, 3) := by decide +kernel
theorem dX11_does_162 : decode cX11_does 162 = .ok (.iconst 0, 1) := by decide +kernel
theorem dX11_does_163 : decode cX11_does 163 = .ok (.ireturn, 1) := by decide +kernel
theorem dX11_does_164 : decode cX11_does 164 = .ok (.aload_n 0, 1) := by decide +kernel
theorem dX11_does_165 : decode cX11_does 165 = .ok (.getfield 19, 3) := by decide +kernel
theorem dX11_does_168 : decode cX11_does 168 = .ok (.iload 6, 2) := by decide +kernel
theorem dX11_does_170 : decode cX11_does 170 = .ok (.invokestatic 159, 3) := by decide +kernel
theorem dX11_does_173 : decode cX11_does 173 = .ok (.pop, 1) := by decide +kernel
theorem dX11_does_174 : decode cX11_does 174 = .ok (.iconst 1, 1) := by decide +kernel
theorem dX11_does_175 : decode cX11_does 175 = .ok (.ireturn, 1) := by decide +kernel
theorem dX11_does_176 : decode cX11_does 176 = .ok (.iload 7, 2) := by decide +kernel
theorem dX11_does_178 : decode cX11_does 178 = .ok (.ifCond .eq 39, 3) := by decide +kernel
theorem dX11_does_181 : decode cX11_does 181 = .ok (.aload_n 0, 1) := by decide +kernel
theorem dX11_does_182 : decode cX11_does 182 = .ok (.getfield 19, 3) := by decide +kernel
theorem dX11_does_185 : decode cX11_does 185 = .ok (.iload_n 2, 1) := by decide +kernel
theorem dX11_does_186 : decode cX11_does 186 = .ok (.invokestatic 131, 3) := by decide +kernel
theorem dX11_does_189 : decode cX11_does 189 = .ok (.ifCond .eq 28, 3) := by decide +kernel
theorem dX11_does_192 : decode cX11_does 192 = .ok (.aload_n 0, 1) := by decide +kernel
theorem dX11_does_193 : decode cX11_does 193 = .ok (.getfield 19, 3) := by decide +kernel
theorem dX11_does_196 : decode cX11_does 196 = .ok (.iload_n 3, 1) := by decide +kernel
theorem dX11_does_197 : decode cX11_does 197 = .ok (.invokestatic 126, 3) := by decide +kernel
theorem dX11_does_200 : decode cX11_does 200 = .ok (.ifCond .eq 17, 3) := by decide +kernel
theorem dX11_does_203 : decode cX11_does 203 = .ok (.aload_n 0, 1) := by decide +kernel
theorem dX11_does_204 : decode cX11_does 204 = .ok (.getfield 19, 3) := by decide +kernel
theorem dX11_does_207 : decode cX11_does 207 = .ok (.iload_n 2, 1) := by decide +kernel
theorem dX11_does_208 : decode cX11_does 208 = .ok (.iload 6, 2) := by decide +kernel
theorem dX11_does_210 : decode cX11_does 210 = .ok (.iload_n 3, 1) := by decide +kernel
theorem dX11_does_211 : decode cX11_does 211 = .ok (.invokestatic 162, 3) := by decide +kernel
theorem dX11_does_214 : decode cX11_does 214 = .ok (.ifCond .ne 5, 3) := by decide +kernel
theorem dX11_does_217 : decode cX11_does 217 = .ok (.iconst 0, 1) := by decide +kernel
theorem dX11_does_218 : decode cX11_does 218 = .ok (.ireturn, 1) := by decide +kernel
theorem dX11_does_219 : decode cX11_does 219 = .ok (.aload_n 0, 1) := by decide +kernel
theorem dX11_does_220 : decode cX11_does 220 = .ok (.getfield 19, 3) := by decide +kernel
theorem dX11_does_223 : decode cX11_does 223 = .ok (.iload_n 2, 1) := by decide +kernel
theorem dX11_does_224 : decode cX11_does 224 = .ok (.iload 6, 2) := by decide +kernel
theorem dX11_does_226 : decode cX11_does 226 = .ok (.iload_n 3, 1) := by decide +kernel
theorem dX11_does_227 : decode cX11_does 227 = .ok (.invokestatic 166, 3) := by decide +kernel
theorem dX11_does_230 : decode cX11_does 230 = .ok (.pop, 1) := by decide +kernel
theorem dX11_does_231 : decode cX11_does 231 = .ok (.iconst 1, 1) := by decide +kernel
theorem dX11_does_232 : decode cX11_does 232 = .ok (.ireturn, 1) := by decide +kernel
theorem dX11_does_233 : decode cX11_does 233 = .ok (.iload_n 2, 1) := by decide +kernel
theorem dX11_does_234 : decode cX11_does 234 = .ok (.iload_n 3, 1) := by decide +kernel
theorem dX11_does_235 : decode cX11_does 235 = .ok (.iadd, 1) := by decide +kernel
theorem dX11_does_236 : decode cX11_does 236 = .ok (.ifCond .gt 20, 3) := by decide +kernel
theorem dX11_does_239 : decode cX11_does 239 = .ok (.iload 7, 2) := by decide +kernel
theorem dX11_does_241 : decode cX11_does 241 = .ok (.ifCond .eq 15, 3) := by decide +kernel
theorem dX11_does_244 : decode cX11_does 244 = .ok (.aload_n 0, 1) := by decide +kernel
theorem dX11_does_245 : decode cX11_does 245 = .ok (.getfield 19, 3) := by decide +kernel
theorem dX11_does_248 : decode cX11_does 248 = .ok (.iload 6, 2) := by decide +kernel
theorem dX11_does_250 : decode cX11_does 250 = .ok (.invokestatic 142, 3) := by decide +kernel
theorem dX11_does_253 : decode cX11_does 253 = .ok (.ifCond .eq 5, 3) := by decide +kernel
theorem dX11_does_256 : decode cX11_does 256 = .ok (.iconst 0, 1) := by decide +kernel
theorem dX11_does_257 : decode cX11_does 257 = .ok (.ireturn, 1) := by decide +kernel
theorem dX11_does_258 : decode cX11_does 258 = .ok (.aload_n 0, 1) := by decide +kernel
theorem dX11_does_259 : decode cX11_does 259 = .ok (.getfield 19, 3) := by decide +kernel
theorem dX11_does_262 : decode cX11_does 262 = .ok (.bipush 50, 2) := by decide +kernel
theorem dX11_does_264 : decode cX11_does 264 = .ok (.bipush 6, 2) := by decide +kernel
theorem dX11_does_266 : decode cX11_does 266 = .ok (.iload 6, 2) := by decide +kernel
theorem dX11_does_268 : decode cX11_does 268 = .ok (.imul, 1) := by decide +kernel
theorem dX11_does_269 : decode cX11_does 269 = .ok (.iadd, 1) := by decide +kernel
theorem dX11_does_270 : decode cX11_does 270 = .ok (.iconst 3, 1) := by decide +kernel
theorem dX11_does_271 : decode cX11_does 271 = .ok (.iadd, 1) := by decide +kernel
theorem dX11_does_272 : decode cX11_does 272 = .ok (.iconst 3, 1) := by decide +kernel
theorem dX11_does_273 : decode cX11_does 273 = .ok (.iastore, 1) := by decide +kernel
theorem dX11_does_274 : decode cX11_does 274 = .ok (.iconst 1, 1) := by decide +kernel
theorem dX11_does_275 : decode cX11_does 275 = .ok (.ireturn, 1) := by decide +kernel
theorem dX11_does_276 : decode cX11_does 276 = .ok (.iload_n 2, 1) := by decide +kernel
theorem dX11_does_277 : decode cX11_does 277 = .ok (.iload_n 3, 1) := by decide +kernel
theorem dX11_does_278 : decode cX11_does 278 = .ok (.iadd, 1) := by decide +kernel
theorem dX11_does_279 : decode cX11_does 279 = .ok (.iload 4, 2) := by decide +kernel
theorem dX11_does_281 : decode cX11_does 281 = .ok (.iadd, 1) := by decide +kernel
theorem dX11_does_282 : decode cX11_does 282 = .ok (.ifCond .ne 25, 3) := by decide +kernel
theorem dX11_does_285 : decode cX11_does 285 = .ok (.iload 5, 2) := by decide +kernel
theorem dX11_does_287 : decode cX11_does 287 = .ok (.iconst 2, 1) := by decide +kernel
theorem dX11_does_288 : decode cX11_does 288 = .ok (.if_icmp .ge 19, 3) := by decide +kernel
theorem dX11_does_291 : decode cX11_does 291 = .ok (.aload_n 0, 1) := by decide +kernel
theorem dX11_does_292 : decode cX11_does 292 = .ok (.getfield 19, 3) := by decide +kernel
theorem dX11_does_295 : decode cX11_does 295 = .ok (.iload 5, 2) := by decide +kernel
theorem dX11_does_297 : decode cX11_does 297 = .ok (.invokestatic 169, 3) := by decide +kernel
theorem dX11_does_300 : decode cX11_does 300 = .ok (.ifCond .le 7, 3) := by decide +kernel
theorem dX11_does_303 : decode cX11_does 303 = .ok (.iconst 1, 1) := by decide +kernel
theorem dX11_does_304 : decode cX11_does 304 = .ok (.goto 4, 3) := by decide +kernel
theorem dX11_does_307 : decode cX11_does 307 = .ok (.iconst 0, 1) := by decide +kernel
theorem dX11_does_308 : decode cX11_does 308 = .ok (.ireturn, 1) := by decide +kernel
theorem dX11_does_309 : decode cX11_does 309 = .ok (.iload_n 2, 1) := by decide +kernel
theorem dX11_does_310 : decode cX11_does 310 = .ok (.iload_n 3, 1) := by decide +kernel
theorem dX11_does_311 : decode cX11_does 311 = .ok (.iadd, 1) := by decide +kernel
theorem dX11_does_312 : decode cX11_does 312 = .ok (.iload 4, 2) := by decide +kernel
theorem dX11_does_314 : decode cX11_does 314 = .ok (.iadd, 1) := by decide +kernel
theorem dX11_does_315 : decode cX11_does 315 = .ok (.ifCond .le 5, 3) := by decide +kernel
theorem dX11_does_318 : decode cX11_does 318 = .ok (.iconst 0, 1) := by decide +kernel
theorem dX11_does_319 : decode cX11_does 319 = .ok (.ireturn, 1) := by decide +kernel
theorem dX11_does_320 : decode cX11_does 320 = .ok (.aload_n 0, 1) := by decide +kernel
theorem dX11_does_321 : decode cX11_does 321 = .ok (.getfield 19, 3) := by decide +kernel
theorem dX11_does_324 : decode cX11_does 324 = .ok (.iconst 0, 1) := by decide +kernel
theorem dX11_does_325 : decode cX11_does 325 = .ok (.iload 5, 2) := by decide +kernel
theorem dX11_does_327 : decode cX11_does 327 = .ok (.iastore, 1) := by decide +kernel
theorem dX11_does_328 : decode cX11_does 328 = .ok (.iconst 1, 1) := by decide +kernel
theorem dX11_does_329 : decode cX11_does 329 = .ok (.ireturn, 1) := by decide +kernel
theorem dX11_does_330 : decode cX11_does 330 = .ok (.iload_n 2, 1) := by decide +kernel
theorem dX11_does_331 : decode cX11_does 331 = .ok (.iload_n 3, 1) := by decide +kernel
theorem dX11_does_332 : decode cX11_does 332 = .ok (.iadd, 1) := by decide +kernel
theorem dX11_does_333 : decode cX11_does 333 = .ok (.ifCond .gt 27, 3) := by decide +kernel
theorem dX11_does_336 : decode cX11_does 336 = .ok (.iload 7, 2) := by decide +kernel
theorem dX11_does_338 : decode cX11_does 338 = .ok (.ifCond .eq 22, 3) := by decide +kernel
theorem dX11_does_341 : decode cX11_does 341 = .ok (.aload_n 0, 1) := by decide +kernel
theorem dX11_does_342 : decode cX11_does 342 = .ok (.getfield 19, 3) := by decide +kernel
theorem dX11_does_345 : decode cX11_does 345 = .ok (.bipush 50, 2) := by decide +kernel
theorem dX11_does_347 : decode cX11_does 347 = .ok (.bipush 6, 2) := by decide +kernel
theorem dX11_does_349 : decode cX11_does 349 = .ok (.iload 6, 2) := by decide +kernel
theorem dX11_does_351 : decode cX11_does 351 = .ok (.imul, 1) := by decide +kernel
theorem dX11_does_352 : decode cX11_does 352 = .ok (.iadd, 1) := by decide +kernel
theorem dX11_does_353 : decode cX11_does 353 = .ok (.iconst 3, 1) := by decide +kernel
theorem dX11_does_354 : decode cX11_does 354 = .ok (.iadd, 1) := by decide +kernel
theorem dX11_does_355 : decode cX11_does 355 = .ok (.iaload, 1) := by decide +kernel
theorem dX11_does_356 : decode cX11_does 356 = .ok (.iconst 2, 1) := by decide +kernel
theorem dX11_does_357 : decode cX11_does 357 = .ok (.if_icmp .eq 5, 3) := by decide +kernel
theorem dX11_does_360 : decode cX11_does 360 = .ok (.iconst 0, 1) := by decide +kernel
theorem dX11_does_361 : decode cX11_does 361 = .ok (.ireturn, 1) := by decide +kernel
theorem dX11_does_362 : decode cX11_does 362 = .ok (.aload_n 0, 1) := by decide +kernel
theorem dX11_does_363 : decode cX11_does 363 = .ok (.getfield 19, 3) := by decide +kernel
theorem dX11_does_366 : decode cX11_does 366 = .ok (.bipush 50, 2) := by decide +kernel
theorem dX11_does_368 : decode cX11_does 368 = .ok (.bipush 6, 2) := by decide +kernel
theorem dX11_does_370 : decode cX11_does 370 = .ok (.iload 6, 2) := by decide +kernel
theorem dX11_does_372 : decode cX11_does 372 = .ok (.imul, 1) := by decide +kernel
theorem dX11_does_373 : decode cX11_does 373 = .ok (.iadd, 1) := by decide +kernel
theorem dX11_does_374 : decode cX11_does 374 = .ok (.iconst 3, 1) := by decide +kernel
theorem dX11_does_375 : decode cX11_does 375 = .ok (.iadd, 1) := by decide +kernel
theorem dX11_does_376 : decode cX11_does 376 = .ok (.iconst 4, 1) := by decide +kernel
theorem dX11_does_377 : decode cX11_does 377 = .ok (.iastore, 1) := by decide +kernel
theorem dX11_does_378 : decode cX11_does 378 = .ok (.iconst 1, 1) := by decide +kernel
theorem dX11_does_379 : decode cX11_does 379 = .ok (.ireturn, 1) := by decide +kernel
theorem dX11_does_380 : decode cX11_does 380 = .ok (.aload_n 0, 1) := by decide +kernel
theorem dX11_does_381 : decode cX11_does 381 = .ok (.getfield 19, 3) := by decide +kernel
theorem dX11_does_384 : decode cX11_does 384 = .ok (.invokestatic 122, 3) := by decide +kernel
theorem dX11_does_387 : decode cX11_does 387 = .ok (.sipush 1000, 3) := by decide +kernel
theorem dX11_does_390 : decode cX11_does 390 = .ok (.iload_n 2, 1) := by decide +kernel
theorem dX11_does_391 : decode cX11_does 391 = .ok (.imul, 1) := by decide +kernel
theorem dX11_does_392 : decode cX11_does 392 = .ok (.bipush 100, 2) := by decide +kernel
theorem dX11_does_394 : decode cX11_does 394 = .ok (.iload_n 3, 1) := by decide +kernel
theorem dX11_does_395 : decode cX11_does 395 = .ok (.imul, 1) := by decide +kernel
theorem dX11_does_396 : decode cX11_does 396 = .ok (.iadd, 1) := by decide +kernel
theorem dX11_does_397 : decode cX11_does 397 = .ok (.iload 6, 2) := by decide +kernel
theorem dX11_does_399 : decode cX11_does 399 = .ok (.iadd, 1) := by decide +kernel
theorem dX11_does_400 : decode cX11_does 400 = .ok (.if_icmp .lt 7, 3) := by decide +kernel
theorem dX11_does_403 : decode cX11_does 403 = .ok (.iconst 1, 1) := by decide +kernel
theorem dX11_does_404 : decode cX11_does 404 = .ok (.goto 4, 3) := by decide +kernel
theorem dX11_does_407 : decode cX11_does 407 = .ok (.iconst 0, 1) := by decide +kernel
theorem dX11_does_408 : decode cX11_does 408 = .ok (.ireturn, 1) := by decide +kernel
theorem dX11_does_409 : decode cX11_does 409 = .ok (.iload_n 3, 1) := by decide +kernel
theorem dX11_does_410 : decode cX11_does 410 = .ok (.iload 4, 2) := by decide +kernel
theorem dX11_does_412 : decode cX11_does 412 = .ok (.iadd, 1) := by decide +kernel
theorem dX11_does_413 : decode cX11_does 413 = .ok (.ifCond .ne 32, 3) := by decide +kernel
theorem dX11_does_416 : decode cX11_does 416 = .ok (.aload_n 0, 1) := by decide +kernel
theorem dX11_does_417 : decode cX11_does 417 = .ok (.getfield 19, 3) := by decide +kernel
theorem dX11_does_420 : decode cX11_does 420 = .ok (.iload_n 2, 1) := by decide +kernel
theorem dX11_does_421 : decode cX11_does 421 = .ok (.invokestatic 126, 3) := by decide +kernel
theorem dX11_does_424 : decode cX11_does 424 = .ok (.ifCond .eq 21, 3) := by decide +kernel
theorem dX11_does_427 : decode cX11_does 427 = .ok (.aload_n 0, 1) := by decide +kernel
theorem dX11_does_428 : decode cX11_does 428 = .ok (.getfield 19, 3) := by decide +kernel
theorem dX11_does_431 : decode cX11_does 431 = .ok (.iload_n 2, 1) := by decide +kernel
theorem dX11_does_432 : decode cX11_does 432 = .ok (.iconst 3, 1) := by decide +kernel
theorem dX11_does_433 : decode cX11_does 433 = .ok (.invokestatic 43, 3) := by decide +kernel
theorem dX11_does_436 : decode cX11_does 436 = .ok (.iload 5, 2) := by decide +kernel
theorem dX11_does_438 : decode cX11_does 438 = .ok (.if_icmp .ne 7, 3) := by decide +kernel
theorem dX11_does_441 : decode cX11_does 441 = .ok (.iconst 1, 1) := by decide +kernel
theorem dX11_does_442 : decode cX11_does 442 = .ok (.goto 4, 3) := by decide +kernel
theorem dX11_does_445 : decode cX11_does 445 = .ok (.iconst 0, 1) := by decide +kernel
theorem dX11_does_446 : decode cX11_does 446 = .ok (.ireturn, 1) := by decide +kernel
theorem dX11_does_447 : decode cX11_does 447 = .ok (.iconst 0, 1) := by decide +kernel
theorem dX11_does_448 : decode cX11_does 448 = .ok (.ireturn, 1) := by decide +kernel
theorem dX11_runScript_0 : decode cX11_runScript 0 = .ok (.iload_n 1, 1) := by decide +kernel
theorem dX11_runScript_1 : decode cX11_runScript 1 = .ok (.iconst 1, 1) := by decide +kernel
theorem dX11_runScript_2 : decode cX11_runScript 2 = .ok (.if_icmp .ne 9, 3) := by decide +kernel
theorem dX11_runScript_5 : decode cX11_runScript 5 = .ok (.ldc2_w 183, 3) := by decide +kernel
theorem dX11_runScript_8 : decode cX11_runScript 8 = .ok (.goto 17, 3) := by decide +kernel
theorem dX11_runScript_11 : decode cX11_runScript 11 = .ok (.iload_n 1, 1) := by decide +kernel
theorem dX11_runScript_12 : decode cX11_runScript 12 = .ok (.iconst 2, 1) := by decide +kernel
theorem dX11_runScript_13 : decode cX11_runScript 13 = .ok (.if_icmp .ne 9, 3) := by decide +kernel
theorem dX11_runScript_16 : decode cX11_runScript 16 = .ok (.ldc2_w 185, 3) := by decide +kernel
theorem dX11_runScript_19 : decode cX11_runScript 19 = .ok (.goto 6, 3) := by decide +kernel
theorem dX11_runScript_22 : decode cX11_runScript 22 = .ok (.ldc2_w 187, 3) := by decide +kernel
theorem dX11_runScript_25 : decode cX11_runScript 25 = .ok (.lstore 4, 2) := by decide +kernel
theorem dX11_runScript_27 : decode cX11_runScript 27 = .ok (.aload_n 0, 1) := by decide +kernel
theorem dX11_runScript_28 : decode cX11_runScript 28 = .ok (.iload_n 1, 1) := by decide +kernel
theorem dX11_runScript_29 : decode cX11_runScript 29 = .ok (.i2l, 1) := by decide +kernel
theorem dX11_runScript_30 : decode cX11_runScript 30 = .ok (.lconst 1, 1) := by decide +kernel
theorem dX11_runScript_31 : decode cX11_runScript 31 = .ok (.ldc2_w 189, 3) := by decide +kernel
theorem dX11_runScript_34 : decode cX11_runScript 34 = .ok (.invokestatic 39, 3) := by decide +kernel
theorem dX11_runScript_37 : decode cX11_runScript 37 = .ok (.ifCond .eq 19, 3) := by decide +kernel
theorem dX11_runScript_40 : decode cX11_runScript 40 = .ok (.lload_n 2, 1) := by decide +kernel
theorem dX11_runScript_41 : decode cX11_runScript 41 = .ok (.lconst 0, 1) := by decide +kernel
theorem dX11_runScript_42 : decode cX11_runScript 42 = .ok (.lload 4, 2) := by decide +kernel
theorem dX11_runScript_44 : decode cX11_runScript 44 = .ok (.lconst 1, 1) := by decide +kernel
theorem dX11_runScript_45 : decode cX11_runScript 45 = .ok (.lsub, 1) := by decide +kernel
theorem dX11_runScript_46 : decode cX11_runScript 46 = .ok (.invokestatic 39, 3) := by decide +kernel
theorem dX11_runScript_49 : decode cX11_runScript 49 = .ok (.ifCond .eq 7, 3) := by decide +kernel
theorem dX11_runScript_52 : decode cX11_runScript 52 = .ok (.iconst 0, 1) := by decide +kernel
theorem dX11_runScript_53 : decode cX11_runScript 53 = .ok (.goto 4, 3) := by decide +kernel
theorem dX11_runScript_56 : decode cX11_runScript 56 = .ok (.iconst 1, 1) := by decide +kernel
theorem dX11_runScript_57 : decode cX11_runScript 57 = .ok (.invokevirtual 76, 3) := by decide +kernel
theorem dX11_runScript_60 : decode cX11_runScript 60 = .ok (.ifCond .eq 5, 3) := by decide +kernel
theorem dX11_runScript_63 : decode cX11_runScript 63 = .ok (.iconst 0, 1) := by decide +kernel
theorem dX11_runScript_64 : decode cX11_runScript 64 = .ok (.ireturn, 1) := by decide +kernel
theorem dX11_runScript_65 : decode cX11_runScript 65 = .ok (.aload_n 0, 1) := by decide +kernel
theorem dX11_runScript_66 : decode cX11_runScript 66 = .ok (.getfield 16, 3) := by decide +kernel
theorem dX11_runScript_69 : decode cX11_runScript 69 = .ok (.iconst 0, 1) := by decide +kernel
theorem dX11_runScript_70 : decode cX11_runScript 70 = .ok (.aload_n 0, 1) := by decide +kernel
theorem dX11_runScript_71 : decode cX11_runScript 71 = .ok (.getfield 19, 3) := by decide +kernel
theorem dX11_runScript_74 : decode cX11_runScript 74 = .ok (.iconst 0, 1) := by decide +kernel
theorem dX11_runScript_75 : decode cX11_runScript 75 = .ok (.invokestatic 110, 3) := by decide +kernel
theorem dX11_runScript_78 : decode cX11_runScript 78 = .ok (.lload_n 2, 1) := by decide +kernel
theorem dX11_runScript_79 : decode cX11_runScript 79 = .ok (.lstore 6, 2) := by decide +kernel
theorem dX11_runScript_81 : decode cX11_runScript 81 = .ok (.iconst 0, 1) := by decide +kernel
theorem dX11_runScript_82 : decode cX11_runScript 82 = .ok (.istore 8, 2) := by decide +kernel
theorem dX11_runScript_84 : decode cX11_runScript 84 = .ok (.iload 8, 2) := by decide +kernel
theorem dX11_runScript_86 : decode cX11_runScript 86 = .ok (.iload_n 1, 1) := by decide +kernel
theorem dX11_runScript_87 : decode cX11_runScript 87 = .ok (.if_icmp .ge 78, 3) := by decide +kernel
theorem dX11_runScript_90 : decode cX11_runScript 90 = .ok (.lload 4, 2) := by decide +kernel
theorem dX11_runScript_92 : decode cX11_runScript 92 = .ok (.ldc2_w 183, 3) := by decide +kernel
theorem dX11_runScript_95 : decode cX11_runScript 95 = .ok (.ldiv, 1) := by decide +kernel
theorem dX11_runScript_96 : decode cX11_runScript 96 = .ok (.lstore 4, 2) := by decide +kernel
theorem dX11_runScript_98 : decode cX11_runScript 98 = .ok (.lload 6, 2) := by decide +kernel
theorem dX11_runScript_100 : decode cX11_runScript 100 = .ok (.lload 4, 2) := by decide +kernel
theorem dX11_runScript_102 : decode cX11_runScript 102 = .ok (.ldiv, 1) := by decide +kernel
theorem dX11_runScript_103 : decode cX11_runScript 103 = .ok (.l2i, 1) := by decide +kernel
theorem dX11_runScript_104 : decode cX11_runScript 104 = .ok (.istore 9, 2) := by decide +kernel
theorem dX11_runScript_106 : decode cX11_runScript 106 = .ok (.lload 6, 2) := by decide +kernel
theorem dX11_runScript_108 : decode cX11_runScript 108 = .ok (.lload 4, 2) := by decide +kernel
theorem dX11_runScript_110 : decode cX11_runScript 110 = .ok (.lrem, 1) := by decide +kernel
theorem dX11_runScript_111 : decode cX11_runScript 111 = .ok (.lstore 6, 2) := by decide +kernel
theorem dX11_runScript_113 : decode cX11_runScript 113 = .ok (.aload_n 0, 1) := by decide +kernel
theorem dX11_runScript_114 : decode cX11_runScript 114 = .ok (.iload 9, 2) := by decide +kernel
theorem dX11_runScript_116 : decode cX11_runScript 116 = .ok (.sipush 10000, 3) := by decide +kernel
theorem dX11_runScript_119 : decode cX11_runScript 119 = .ok (.idiv, 1) := by decide +kernel
theorem dX11_runScript_120 : decode cX11_runScript 120 = .ok (.iload 9, 2) := by decide +kernel
theorem dX11_runScript_122 : decode cX11_runScript 122 = .ok (.sipush 1000, 3) := by decide +kernel
theorem dX11_runScript_125 : decode cX11_runScript 125 = .ok (.idiv, 1) := by decide +kernel
theorem dX11_runScript_126 : decode cX11_runScript 126 = .ok (.bipush 10, 2) := by decide +kernel
theorem dX11_runScript_128 : decode cX11_runScript 128 = .ok (.irem, 1) := by decide +kernel
theorem dX11_runScript_129 : decode cX11_runScript 129 = .ok (.iload 9, 2) := by decide +kernel
theorem dX11_runScript_131 : decode cX11_runScript 131 = .ok (.bipush 100, 2) := by decide +kernel
theorem dX11_runScript_133 : decode cX11_runScript 133 = .ok (.idiv, 1) := by decide +kernel
theorem dX11_runScript_134 : decode cX11_runScript 134 = .ok (.bipush 10, 2) := by decide +kernel
theorem dX11_runScript_136 : decode cX11_runScript 136 = .ok (.irem, 1) := by decide +kernel
theorem dX11_runScript_137 : decode cX11_runScript 137 = .ok (.iload 9, 2) := by decide +kernel
theorem dX11_runScript_139 : decode cX11_runScript 139 = .ok (.bipush 10, 2) := by decide +kernel
theorem dX11_runScript_141 : decode cX11_runScript 141 = .ok (.idiv, 1) := by decide +kernel
theorem dX11_runScript_142 : decode cX11_runScript 142 = .ok (.bipush 10, 2) := by decide +kernel
theorem dX11_runScript_144 : decode cX11_runScript 144 = .ok (.irem, 1) := by decide +kernel
theorem dX11_runScript_145 : decode cX11_runScript 145 = .ok (.iload 9, 2) := by decide +kernel
theorem dX11_runScript_147 : decode cX11_runScript 147 = .ok (.bipush 10, 2) := by decide +kernel
theorem dX11_runScript_149 : decode cX11_runScript 149 = .ok (.irem, 1) := by decide +kernel
theorem dX11_runScript_150 : decode cX11_runScript 150 = .ok (.invokevirtual 191, 3) := by decide +kernel
theorem dX11_runScript_153 : decode cX11_runScript 153 = .ok (.ifCond .ne 6, 3) := by decide +kernel
theorem dX11_runScript_156 : decode cX11_runScript 156 = .ok (.iload 8, 2) := by decide +kernel
theorem dX11_runScript_158 : decode cX11_runScript 158 = .ok (.ireturn, 1) := by decide +kernel
theorem dX11_runScript_159 : decode cX11_runScript 159 = .ok (.iinc 8 1, 3) := by decide +kernel
theorem dX11_runScript_162 : decode cX11_runScript 162 = .ok (.goto (-78), 3) := by decide +kernel
theorem dX11_runScript_165 : decode cX11_runScript 165 = .ok (.bipush (-9), 2) := by decide +kernel
theorem dX11_runScript_167 : decode cX11_runScript 167 = .ok (.ireturn, 1) := by decide +kernel
theorem dX11_lowest_0 : decode cX11_lowest 0 = .ok (.iconst 0, 1) := by decide +kernel
theorem dX11_lowest_1 : decode cX11_lowest 1 = .ok (.istore_n 2, 1) := by decide +kernel
theorem dX11_lowest_2 : decode cX11_lowest 2 = .ok (.iload_n 2, 1) := by decide +kernel
theorem dX11_lowest_3 : decode cX11_lowest 3 = .ok (.aload_n 0, 1) := by decide +kernel
theorem dX11_lowest_4 : decode cX11_lowest 4 = .ok (.getfield 19, 3) := by decide +kernel
theorem dX11_lowest_7 : decode cX11_lowest 7 = .ok (.bipush 7, 2) := by decide +kernel
theorem dX11_lowest_9 : decode cX11_lowest 9 = .ok (.iaload, 1) := by decide +kernel
theorem dX11_lowest_10 : decode cX11_lowest 10 = .ok (.if_icmp .ge 29, 3) := by decide +kernel
theorem dX11_lowest_13 : decode cX11_lowest 13 = .ok (.aload_n 0, 1) := by decide +kernel
theorem dX11_lowest_14 : decode cX11_lowest 14 = .ok (.getfield 19, 3) := by decide +kernel
theorem dX11_lowest_17 : decode cX11_lowest 17 = .ok (.bipush 50, 2) := by decide +kernel
theorem dX11_lowest_19 : decode cX11_lowest 19 = .ok (.bipush 6, 2) := by decide +kernel
theorem dX11_lowest_21 : decode cX11_lowest 21 = .ok (.iload_n 2, 1) := by decide +kernel
theorem dX11_lowest_22 : decode cX11_lowest 22 = .ok (.imul, 1) := by decide +kernel
theorem dX11_lowest_23 : decode cX11_lowest 23 = .ok (.iadd, 1) := by decide +kernel
theorem dX11_lowest_24 : decode cX11_lowest 24 = .ok (.iconst 3, 1) := by decide +kernel
theorem dX11_lowest_25 : decode cX11_lowest 25 = .ok (.iadd, 1) := by decide +kernel
theorem dX11_lowest_26 : decode cX11_lowest 26 = .ok (.iaload, 1) := by decide +kernel
theorem dX11_lowest_27 : decode cX11_lowest 27 = .ok (.iload_n 1, 1) := by decide +kernel
theorem dX11_lowest_28 : decode cX11_lowest 28 = .ok (.if_icmp .ne 5, 3) := by decide +kernel
theorem dX11_lowest_31 : decode cX11_lowest 31 = .ok (.iload_n 2, 1) := by decide +kernel
theorem dX11_lowest_32 : decode cX11_lowest 32 = .ok (.ireturn, 1) := by decide +kernel
theorem dX11_lowest_33 : decode cX11_lowest 33 = .ok (.iinc 2 1, 3) := by decide +kernel
theorem dX11_lowest_36 : decode cX11_lowest 36 = .ok (.goto (-34), 3) := by decide +kernel
theorem dX11_lowest_39 : decode cX11_lowest 39 = .ok (.bipush (-9), 2) := by decide +kernel
theorem dX11_lowest_41 : decode cX11_lowest 41 = .ok (.ireturn, 1) := by decide +kernel
theorem dX11_recutLowest_0 : decode cX11_recutLowest 0 = .ok (.aload_n 0, 1) := by decide +kernel
theorem dX11_recutLowest_1 : decode cX11_recutLowest 1 = .ok (.iconst 2, 1) := by decide +kernel
theorem dX11_recutLowest_2 : decode cX11_recutLowest 2 = .ok (.invokevirtual 195, 3) := by decide +kernel
theorem dX11_recutLowest_5 : decode cX11_recutLowest 5 = .ok (.istore_n 2, 1) := by decide +kernel
theorem dX11_recutLowest_6 : decode cX11_recutLowest 6 = .ok (.iload_n 2, 1) := by decide +kernel
theorem dX11_recutLowest_7 : decode cX11_recutLowest 7 = .ok (.bipush (-9), 2) := by decide +kernel
theorem dX11_recutLowest_9 : decode cX11_recutLowest 9 = .ok (.if_icmp .eq 60, 3) := by decide +kernel
theorem dX11_recutLowest_12 : decode cX11_recutLowest 12 = .ok (.aload_n 0, 1) := by decide +kernel
theorem dX11_recutLowest_13 : decode cX11_recutLowest 13 = .ok (.getfield 19, 3) := by decide +kernel
theorem dX11_recutLowest_16 : decode cX11_recutLowest 16 = .ok (.iload_n 2, 1) := by decide +kernel
theorem dX11_recutLowest_17 : decode cX11_recutLowest 17 = .ok (.invokestatic 172, 3) := by decide +kernel
theorem dX11_recutLowest_20 : decode cX11_recutLowest 20 = .ok (.istore_n 3, 1) := by decide +kernel
theorem dX11_recutLowest_21 : decode cX11_recutLowest 21 = .ok (.iload_n 3, 1) := by decide +kernel
theorem dX11_recutLowest_22 : decode cX11_recutLowest 22 = .ok (.bipush (-9), 2) := by decide +kernel
theorem dX11_recutLowest_24 : decode cX11_recutLowest 24 = .ok (.if_icmp .eq 30, 3) := by decide +kernel
theorem dX11_recutLowest_27 : decode cX11_recutLowest 27 = .ok (.aload_n 0, 1) := by decide +kernel
theorem dX11_recutLowest_28 : decode cX11_recutLowest 28 = .ok (.getfield 19, 3) := by decide +kernel
theorem dX11_recutLowest_31 : decode cX11_recutLowest 31 = .ok (.iload_n 1, 1) := by decide +kernel
theorem dX11_recutLowest_32 : decode cX11_recutLowest 32 = .ok (.iload_n 2, 1) := by decide +kernel
theorem dX11_recutLowest_33 : decode cX11_recutLowest 33 = .ok (.iload_n 3, 1) := by decide +kernel
theorem dX11_recutLowest_34 : decode cX11_recutLowest 34 = .ok (.invokestatic 162, 3) := by decide +kernel
theorem dX11_recutLowest_37 : decode cX11_recutLowest 37 = .ok (.ifCond .eq 17, 3) := by decide +kernel
theorem dX11_recutLowest_40 : decode cX11_recutLowest 40 = .ok (.aload_n 0, 1) := by decide +kernel
theorem dX11_recutLowest_41 : decode cX11_recutLowest 41 = .ok (.getfield 19, 3) := by decide +kernel
theorem dX11_recutLowest_44 : decode cX11_recutLowest 44 = .ok (.iload_n 1, 1) := by decide +kernel
theorem dX11_recutLowest_45 : decode cX11_recutLowest 45 = .ok (.iload_n 2, 1) := by decide +kernel
theorem dX11_recutLowest_46 : decode cX11_recutLowest 46 = .ok (.iload_n 3, 1) := by decide +kernel
theorem dX11_recutLowest_47 : decode cX11_recutLowest 47 = .ok (.invokestatic 166, 3) := by decide +kernel
theorem dX11_recutLowest_50 : decode cX11_recutLowest 50 = .ok (.pop, 1) := by decide +kernel
theorem dX11_recutLowest_51 : decode cX11_recutLowest 51 = .ok (.goto 18, 3) := by decide +kernel
theorem dX11_recutLowest_54 : decode cX11_recutLowest 54 = .ok (.aload_n 0, 1) := by decide +kernel
theorem dX11_recutLowest_55 : decode cX11_recutLowest 55 = .ok (.getfield 19, 3) := by decide +kernel
theorem dX11_recutLowest_58 : decode cX11_recutLowest 58 = .ok (.bipush 50, 2) := by decide +kernel
theorem dX11_recutLowest_60 : decode cX11_recutLowest 60 = .ok (.bipush 6, 2) := by decide +kernel
theorem dX11_recutLowest_62 : decode cX11_recutLowest 62 = .ok (.iload_n 2, 1) := by decide +kernel
theorem dX11_recutLowest_63 : decode cX11_recutLowest 63 = .ok (.imul, 1) := by decide +kernel
theorem dX11_recutLowest_64 : decode cX11_recutLowest 64 = .ok (.iadd, 1) := by decide +kernel
theorem dX11_recutLowest_65 : decode cX11_recutLowest 65 = .ok (.iconst 3, 1) := by decide +kernel
theorem dX11_recutLowest_66 : decode cX11_recutLowest 66 = .ok (.iadd, 1) := by decide +kernel
theorem dX11_recutLowest_67 : decode cX11_recutLowest 67 = .ok (.iconst 4, 1) := by decide +kernel
theorem dX11_recutLowest_68 : decode cX11_recutLowest 68 = .ok (.iastore, 1) := by decide +kernel
theorem dX11_recutLowest_69 : decode cX11_recutLowest 69 = .ok (.return_, 1) := by decide +kernel
theorem dX11_setLowest_0 : decode cX11_setLowest 0 = .ok (.iconst 0, 1) := by decide +kernel
theorem dX11_setLowest_1 : decode cX11_setLowest 1 = .ok (.istore_n 1, 1) := by decide +kernel
theorem dX11_setLowest_2 : decode cX11_setLowest 2 = .ok (.iconst 0, 1) := by decide +kernel
theorem dX11_setLowest_3 : decode cX11_setLowest 3 = .ok (.istore_n 2, 1) := by decide +kernel
theorem dX11_setLowest_4 : decode cX11_setLowest 4 = .ok (.iload_n 2, 1) := by decide +kernel
theorem dX11_setLowest_5 : decode cX11_setLowest 5 = .ok (.aload_n 0, 1) := by decide +kernel
theorem dX11_setLowest_6 : decode cX11_setLowest 6 = .ok (.getfield 19, 3) := by decide +kernel
theorem dX11_setLowest_9 : decode cX11_setLowest 9 = .ok (.bipush 7, 2) := by decide +kernel
theorem dX11_setLowest_11 : decode cX11_setLowest 11 = .ok (.iaload, 1) := by decide +kernel
theorem dX11_setLowest_12 : decode cX11_setLowest 12 = .ok (.if_icmp .ge 41, 3) := by decide +kernel
theorem dX11_setLowest_15 : decode cX11_setLowest 15 = .ok (.iload_n 1, 1) := by decide +kernel
theorem dX11_setLowest_16 : decode cX11_setLowest 16 = .ok (.ifCond .ne 37, 3) := by decide +kernel
theorem dX11_setLowest_19 : decode cX11_setLowest 19 = .ok (.aload_n 0, 1) := by decide +kernel
theorem dX11_setLowest_20 : decode cX11_setLowest 20 = .ok (.getfield 19, 3) := by decide +kernel
theorem dX11_setLowest_23 : decode cX11_setLowest 23 = .ok (.iload_n 2, 1) := by decide +kernel
theorem dX11_setLowest_24 : decode cX11_setLowest 24 = .ok (.invokestatic 142, 3) := by decide +kernel
theorem dX11_setLowest_27 : decode cX11_setLowest 27 = .ok (.ifCond .ne 20, 3) := by decide +kernel
theorem dX11_setLowest_30 : decode cX11_setLowest 30 = .ok (.aload_n 0, 1) := by decide +kernel
theorem dX11_setLowest_31 : decode cX11_setLowest 31 = .ok (.getfield 19, 3) := by decide +kernel
theorem dX11_setLowest_34 : decode cX11_setLowest 34 = .ok (.bipush 50, 2) := by decide +kernel
theorem dX11_setLowest_36 : decode cX11_setLowest 36 = .ok (.bipush 6, 2) := by decide +kernel
theorem dX11_setLowest_38 : decode cX11_setLowest 38 = .ok (.iload_n 2, 1) := by decide +kernel
theorem dX11_setLowest_39 : decode cX11_setLowest 39 = .ok (.imul, 1) := by decide +kernel
theorem dX11_setLowest_40 : decode cX11_setLowest 40 = .ok (.iadd, 1) := by decide +kernel
theorem dX11_setLowest_41 : decode cX11_setLowest 41 = .ok (.iconst 3, 1) := by decide +kernel
theorem dX11_setLowest_42 : decode cX11_setLowest 42 = .ok (.iadd, 1) := by decide +kernel
theorem dX11_setLowest_43 : decode cX11_setLowest 43 = .ok (.iconst 3, 1) := by decide +kernel
theorem dX11_setLowest_44 : decode cX11_setLowest 44 = .ok (.iastore, 1) := by decide +kernel
theorem dX11_setLowest_45 : decode cX11_setLowest 45 = .ok (.iconst 1, 1) := by decide +kernel
theorem dX11_setLowest_46 : decode cX11_setLowest 46 = .ok (.istore_n 1, 1) := by decide +kernel
theorem dX11_setLowest_47 : decode cX11_setLowest 47 = .ok (.iinc 2 1, 3) := by decide +kernel
theorem dX11_setLowest_50 : decode cX11_setLowest 50 = .ok (.goto (-46), 3) := by decide +kernel
theorem dX11_setLowest_53 : decode cX11_setLowest 53 = .ok (.return_, 1) := by decide +kernel
theorem dX11_simulateRound_0 : decode cX11_simulateRound 0 = .ok (.aload_n 0, 1) := by decide +kernel
theorem dX11_simulateRound_1 : decode cX11_simulateRound 1 = .ok (.getfield 19, 3) := by decide +kernel
theorem dX11_simulateRound_4 : decode cX11_simulateRound 4 = .ok (.bipush 6, 2) := by decide +kernel
theorem dX11_simulateRound_6 : decode cX11_simulateRound 6 = .ok (.iaload, 1) := by decide +kernel
theorem dX11_simulateRound_7 : decode cX11_simulateRound 7 = .ok (.ifCond .ne 7, 3) := by decide +kernel
theorem dX11_simulateRound_10 : decode cX11_simulateRound 10 = .ok (.iconst 0, 1) := by decide +kernel
theorem dX11_simulateRound_11 : decode cX11_simulateRound 11 = .ok (.goto 15, 3) := by decide +kernel
theorem dX11_simulateRound_14 : decode cX11_simulateRound 14 = .ok (.iload_n 1, 1) := by decide +kernel
theorem dX11_simulateRound_15 : decode cX11_simulateRound 15 = .ok (.bipush 8, 2) := by decide +kernel
theorem dX11_simulateRound_17 : decode cX11_simulateRound 17 = .ok (.idiv, 1) := by decide +kernel
theorem dX11_simulateRound_18 : decode cX11_simulateRound 18 = .ok (.aload_n 0, 1) := by decide +kernel
theorem dX11_simulateRound_19 : decode cX11_simulateRound 19 = .ok (.getfield 19, 3) := by decide +kernel
theorem dX11_simulateRound_22 : decode cX11_simulateRound 22 = .ok (.bipush 6, 2) := by decide +kernel
theorem dX11_simulateRound_24 : decode cX11_simulateRound 24 = .ok (.iaload, 1) := by decide +kernel
theorem dX11_simulateRound_25 : decode cX11_simulateRound 25 = .ok (.irem, 1) := by decide +kernel
theorem dX11_simulateRound_26 : decode cX11_simulateRound 26 = .ok (.istore_n 2, 1) := by decide +kernel
theorem dX11_simulateRound_27 : decode cX11_simulateRound 27 = .ok (.aload_n 0, 1) := by decide +kernel
theorem dX11_simulateRound_28 : decode cX11_simulateRound 28 = .ok (.getfield 19, 3) := by decide +kernel
theorem dX11_simulateRound_31 : decode cX11_simulateRound 31 = .ok (.iconst 5, 1) := by decide +kernel
theorem dX11_simulateRound_32 : decode cX11_simulateRound 32 = .ok (.iaload, 1) := by decide +kernel
theorem dX11_simulateRound_33 : decode cX11_simulateRound 33 = .ok (.ifCond .ne 7, 3) := by decide +kernel
theorem dX11_simulateRound_36 : decode cX11_simulateRound 36 = .ok (.iconst 0, 1) := by decide +kernel
theorem dX11_simulateRound_37 : decode cX11_simulateRound 37 = .ok (.goto 14, 3) := by decide +kernel
theorem dX11_simulateRound_40 : decode cX11_simulateRound 40 = .ok (.iload_n 1, 1) := by decide +kernel
theorem dX11_simulateRound_41 : decode cX11_simulateRound 41 = .ok (.bipush 64, 2) := by decide +kernel
theorem dX11_simulateRound_43 : decode cX11_simulateRound 43 = .ok (.idiv, 1) := by decide +kernel
theorem dX11_simulateRound_44 : decode cX11_simulateRound 44 = .ok (.aload_n 0, 1) := by decide +kernel
theorem dX11_simulateRound_45 : decode cX11_simulateRound 45 = .ok (.getfield 19, 3) := by decide +kernel
theorem dX11_simulateRound_48 : decode cX11_simulateRound 48 = .ok (.iconst 5, 1) := by decide +kernel
theorem dX11_simulateRound_49 : decode cX11_simulateRound 49 = .ok (.iaload, 1) := by decide +kernel
theorem dX11_simulateRound_50 : decode cX11_simulateRound 50 = .ok (.irem, 1) := by decide +kernel
theorem dX11_simulateRound_51 : decode cX11_simulateRound 51 = .ok (.istore_n 3, 1) := by decide +kernel
theorem dX11_simulateRound_52 : decode cX11_simulateRound 52 = .ok (.iload_n 1, 1) := by decide +kernel
theorem dX11_simulateRound_53 : decode cX11_simulateRound 53 = .ok (.bipush 8, 2) := by decide +kernel
theorem dX11_simulateRound_55 : decode cX11_simulateRound 55 = .ok (.irem, 1) := by decide +kernel
theorem dX11_simulateRound_56 : decode cX11_simulateRound 56 = .ok (.tableswitch 138 0 6 #[44, 44, 44, 96, 96, 123, 130], 44) := by decide +kernel
theorem dX11_simulateRound_100 : decode cX11_simulateRound 100 = .ok (.aload_n 0, 1) := by decide +kernel
theorem dX11_simulateRound_101 : decode cX11_simulateRound 101 = .ok (.getfield 19, 3) := by decide +kernel
theorem dX11_simulateRound_104 : decode cX11_simulateRound 104 = .ok (.bipush 6, 2) := by decide +kernel
theorem dX11_simulateRound_106 : decode cX11_simulateRound 106 = .ok (.iaload, 1) := by decide +kernel
theorem dX11_simulateRound_107 : decode cX11_simulateRound 107 = .ok (.ifCond .le 109, 3) := by decide +kernel
theorem dX11_simulateRound_110 : decode cX11_simulateRound 110 = .ok (.aload_n 0, 1) := by decide +kernel
theorem dX11_simulateRound_111 : decode cX11_simulateRound 111 = .ok (.getfield 19, 3) := by decide +kernel
theorem dX11_simulateRound_114 : decode cX11_simulateRound 114 = .ok (.iconst 5, 1) := by decide +kernel
theorem dX11_simulateRound_115 : decode cX11_simulateRound 115 = .ok (.iaload, 1) := by decide +kernel
theorem dX11_simulateRound_116 : decode cX11_simulateRound 116 = .ok (.ifCond .le 100, 3) := by decide +kernel
theorem dX11_simulateRound_119 : decode cX11_simulateRound 119 = .ok (.aload_n 0, 1) := by decide +kernel
theorem dX11_simulateRound_120 : decode cX11_simulateRound 120 = .ok (.getfield 19, 3) := by decide +kernel
theorem dX11_simulateRound_123 : decode cX11_simulateRound 123 = .ok (.iload_n 2, 1) := by decide +kernel
theorem dX11_simulateRound_124 : decode cX11_simulateRound 124 = .ok (.iload_n 3, 1) := by decide +kernel
theorem dX11_simulateRound_125 : decode cX11_simulateRound 125 = .ok (.invokestatic 152, 3) := by decide +kernel
theorem dX11_simulateRound_128 : decode cX11_simulateRound 128 = .ok (.ifCond .eq 88, 3) := by decide +kernel
theorem dX11_simulateRound_131 : decode cX11_simulateRound 131 = .ok (.aload_n 0, 1) := by decide +kernel
theorem dX11_simulateRound_132 : decode cX11_simulateRound 132 = .ok (.getfield 19, 3) := by decide +kernel
theorem dX11_simulateRound_135 : decode cX11_simulateRound 135 = .ok (.iload_n 2, 1) := by decide +kernel
theorem dX11_simulateRound_136 : decode cX11_simulateRound 136 = .ok (.iload_n 3, 1) := by decide +kernel
theorem dX11_simulateRound_137 : decode cX11_simulateRound 137 = .ok (.iload_n 1, 1) := by decide +kernel
theorem dX11_simulateRound_138 : decode cX11_simulateRound 138 = .ok (.sipush 1024, 3) := by decide +kernel
theorem dX11_simulateRound_141 : decode cX11_simulateRound 141 = .ok (.idiv, 1) := by decide +kernel
theorem dX11_simulateRound_142 : decode cX11_simulateRound 142 = .ok (.bipush 10, 2) := by decide +kernel
theorem dX11_simulateRound_144 : decode cX11_simulateRound 144 = .ok (.irem, 1) := by decide +kernel
theorem dX11_simulateRound_145 : decode cX11_simulateRound 145 = .ok (.invokestatic 156, 3) := by decide +kernel
theorem dX11_simulateRound_148 : decode cX11_simulateRound 148 = .ok (.pop, 1) := by decide +kernel
theorem dX11_simulateRound_149 : decode cX11_simulateRound 149 = .ok (.goto 67, 3) := by decide +kernel
theorem dX11_simulateRound_152 : decode cX11_simulateRound 152 = .ok (.aload_n 0, 1) := by decide +kernel
theorem dX11_simulateRound_153 : decode cX11_simulateRound 153 = .ok (.iconst 0, 1) := by decide +kernel
theorem dX11_simulateRound_154 : decode cX11_simulateRound 154 = .ok (.invokevirtual 195, 3) := by decide +kernel
theorem dX11_simulateRound_157 : decode cX11_simulateRound 157 = .ok (.istore 4, 2) := by decide +kernel
theorem dX11_simulateRound_159 : decode cX11_simulateRound 159 = .ok (.iload 4, 2) := by decide +kernel
theorem dX11_simulateRound_161 : decode cX11_simulateRound 161 = .ok (.bipush (-9), 2) := by decide +kernel
theorem dX11_simulateRound_163 : decode cX11_simulateRound 163 = .ok (.if_icmp .eq 53, 3) := by decide +kernel
theorem dX11_simulateRound_166 : decode cX11_simulateRound 166 = .ok (.aload_n 0, 1) := by decide +kernel
theorem dX11_simulateRound_167 : decode cX11_simulateRound 167 = .ok (.getfield 19, 3) := by decide +kernel
theorem dX11_simulateRound_170 : decode cX11_simulateRound 170 = .ok (.iload 4, 2) := by decide +kernel
theorem dX11_simulateRound_172 : decode cX11_simulateRound 172 = .ok (.invokestatic 159, 3) := by decide +kernel
theorem dX11_simulateRound_175 : decode cX11_simulateRound 175 = .ok (.pop, 1) := by decide +kernel
theorem dX11_simulateRound_176 : decode cX11_simulateRound 176 = .ok (.goto 40, 3) := by decide +kernel
theorem dX11_simulateRound_179 : decode cX11_simulateRound 179 = .ok (.aload_n 0, 1) := by decide +kernel
theorem dX11_simulateRound_180 : decode cX11_simulateRound 180 = .ok (.invokevirtual 198, 3) := by decide +kernel
theorem dX11_simulateRound_183 : decode cX11_simulateRound 183 = .ok (.goto 33, 3) := by decide +kernel
theorem dX11_simulateRound_186 : decode cX11_simulateRound 186 = .ok (.aload_n 0, 1) := by decide +kernel
theorem dX11_simulateRound_187 : decode cX11_simulateRound 187 = .ok (.iload_n 2, 1) := by decide +kernel
theorem dX11_simulateRound_188 : decode cX11_simulateRound 188 = .ok (.invokevirtual 201, 3) := by decide +kernel
theorem dX11_simulateRound_191 : decode cX11_simulateRound 191 = .ok (.goto 25, 3) := by decide +kernel
theorem dX11_simulateRound_194 : decode cX11_simulateRound 194 = .ok (.aload_n 0, 1) := by decide +kernel
theorem dX11_simulateRound_195 : decode cX11_simulateRound 195 = .ok (.getfield 19, 3) := by decide +kernel
theorem dX11_simulateRound_198 : decode cX11_simulateRound 198 = .ok (.iload_n 1, 1) := by decide +kernel
theorem dX11_simulateRound_199 : decode cX11_simulateRound 199 = .ok (.bipush 8, 2) := by decide +kernel
theorem dX11_simulateRound_201 : decode cX11_simulateRound 201 = .ok (.idiv, 1) := by decide +kernel
theorem dX11_simulateRound_202 : decode cX11_simulateRound 202 = .ok (.iconst 4, 1) := by decide +kernel
theorem dX11_simulateRound_203 : decode cX11_simulateRound 203 = .ok (.irem, 1) := by decide +kernel
theorem dX11_simulateRound_204 : decode cX11_simulateRound 204 = .ok (.ifCond .ne 7, 3) := by decide +kernel
theorem dX11_simulateRound_207 : decode cX11_simulateRound 207 = .ok (.iconst 1, 1) := by decide +kernel
theorem dX11_simulateRound_208 : decode cX11_simulateRound 208 = .ok (.goto 4, 3) := by decide +kernel
theorem dX11_simulateRound_211 : decode cX11_simulateRound 211 = .ok (.iconst 0, 1) := by decide +kernel
theorem dX11_simulateRound_212 : decode cX11_simulateRound 212 = .ok (.invokestatic 169, 3) := by decide +kernel
theorem dX11_simulateRound_215 : decode cX11_simulateRound 215 = .ok (.pop, 1) := by decide +kernel
theorem dX11_simulateRound_216 : decode cX11_simulateRound 216 = .ok (.return_, 1) := by decide +kernel
theorem dX11_simulate_0 : decode cX11_simulate 0 = .ok (.aload_n 0, 1) := by decide +kernel
theorem dX11_simulate_1 : decode cX11_simulate 1 = .ok (.iload_n 3, 1) := by decide +kernel
theorem dX11_simulate_2 : decode cX11_simulate 2 = .ok (.i2l, 1) := by decide +kernel
theorem dX11_simulate_3 : decode cX11_simulate 3 = .ok (.lconst 1, 1) := by decide +kernel
theorem dX11_simulate_4 : decode cX11_simulate 4 = .ok (.ldc2_w 205, 3) := by decide +kernel
theorem dX11_simulate_7 : decode cX11_simulate 7 = .ok (.invokestatic 39, 3) := by decide +kernel
theorem dX11_simulate_10 : decode cX11_simulate 10 = .ok (.ifCond .eq 7, 3) := by decide +kernel
theorem dX11_simulate_13 : decode cX11_simulate 13 = .ok (.iconst 0, 1) := by decide +kernel
theorem dX11_simulate_14 : decode cX11_simulate 14 = .ok (.goto 4, 3) := by decide +kernel
theorem dX11_simulate_17 : decode cX11_simulate 17 = .ok (.iconst 1, 1) := by decide +kernel
theorem dX11_simulate_18 : decode cX11_simulate 18 = .ok (.invokevirtual 76, 3) := by decide +kernel
theorem dX11_simulate_21 : decode cX11_simulate 21 = .ok (.ifCond .eq 5, 3) := by decide +kernel
theorem dX11_simulate_24 : decode cX11_simulate 24 = .ok (.iconst 0, 1) := by decide +kernel
theorem dX11_simulate_25 : decode cX11_simulate 25 = .ok (.ireturn, 1) := by decide +kernel
theorem dX11_simulate_26 : decode cX11_simulate 26 = .ok (.aload_n 0, 1) := by decide +kernel
theorem dX11_simulate_27 : decode cX11_simulate 27 = .ok (.getfield 16, 3) := by decide +kernel
theorem dX11_simulate_30 : decode cX11_simulate 30 = .ok (.iconst 0, 1) := by decide +kernel
theorem dX11_simulate_31 : decode cX11_simulate 31 = .ok (.aload_n 0, 1) := by decide +kernel
theorem dX11_simulate_32 : decode cX11_simulate 32 = .ok (.getfield 19, 3) := by decide +kernel
theorem dX11_simulate_35 : decode cX11_simulate 35 = .ok (.iconst 0, 1) := by decide +kernel
theorem dX11_simulate_36 : decode cX11_simulate 36 = .ok (.invokestatic 110, 3) := by decide +kernel
theorem dX11_simulate_39 : decode cX11_simulate 39 = .ok (.lload_n 1, 1) := by decide +kernel
theorem dX11_simulate_40 : decode cX11_simulate 40 = .ok (.lstore 4, 2) := by decide +kernel
theorem dX11_simulate_42 : decode cX11_simulate 42 = .ok (.iconst 0, 1) := by decide +kernel
theorem dX11_simulate_43 : decode cX11_simulate 43 = .ok (.istore 6, 2) := by decide +kernel
theorem dX11_simulate_45 : decode cX11_simulate 45 = .ok (.iload 6, 2) := by decide +kernel
theorem dX11_simulate_47 : decode cX11_simulate 47 = .ok (.iload_n 3, 1) := by decide +kernel
theorem dX11_simulate_48 : decode cX11_simulate 48 = .ok (.if_icmp .ge 31, 3) := by decide +kernel
theorem dX11_simulate_51 : decode cX11_simulate 51 = .ok (.lload 4, 2) := by decide +kernel
theorem dX11_simulate_53 : decode cX11_simulate 53 = .ok (.ldc2_w 207, 3) := by decide +kernel
theorem dX11_simulate_56 : decode cX11_simulate 56 = .ok (.lmul, 1) := by decide +kernel
theorem dX11_simulate_57 : decode cX11_simulate 57 = .ok (.ldc2_w 209, 3) := by decide +kernel
theorem dX11_simulate_60 : decode cX11_simulate 60 = .ok (.ladd, 1) := by decide +kernel
theorem dX11_simulate_61 : decode cX11_simulate 61 = .ok (.lstore 4, 2) := by decide +kernel
theorem dX11_simulate_63 : decode cX11_simulate 63 = .ok (.aload_n 0, 1) := by decide +kernel
theorem dX11_simulate_64 : decode cX11_simulate 64 = .ok (.lload 4, 2) := by decide +kernel
theorem dX11_simulate_66 : decode cX11_simulate 66 = .ok (.bipush 33, 2) := by decide +kernel
theorem dX11_simulate_68 : decode cX11_simulate 68 = .ok (.lushr, 1) := by decide +kernel
theorem dX11_simulate_69 : decode cX11_simulate 69 = .ok (.l2i, 1) := by decide +kernel
theorem dX11_simulate_70 : decode cX11_simulate 70 = .ok (.invokevirtual 211, 3) := by decide +kernel
theorem dX11_simulate_73 : decode cX11_simulate 73 = .ok (.iinc 6 1, 3) := by decide +kernel
theorem dX11_simulate_76 : decode cX11_simulate 76 = .ok (.goto (-31), 3) := by decide +kernel
theorem dX11_simulate_79 : decode cX11_simulate 79 = .ok (.aload_n 0, 1) := by decide +kernel
theorem dX11_simulate_80 : decode cX11_simulate 80 = .ok (.getfield 19, 3) := by decide +kernel
theorem dX11_simulate_83 : decode cX11_simulate 83 = .ok (.invokestatic 122, 3) := by decide +kernel
theorem dX11_simulate_86 : decode cX11_simulate 86 = .ok (.istore 6, 2) := by decide +kernel
theorem dX11_simulate_88 : decode cX11_simulate 88 = .ok (.sipush 10000, 3) := by decide +kernel
theorem dX11_simulate_91 : decode cX11_simulate 91 = .ok (.aload_n 0, 1) := by decide +kernel
theorem dX11_simulate_92 : decode cX11_simulate 92 = .ok (.getfield 19, 3) := by decide +kernel
theorem dX11_simulate_95 : decode cX11_simulate 95 = .ok (.iconst 3, 1) := by decide +kernel
theorem dX11_simulate_96 : decode cX11_simulate 96 = .ok (.invokestatic 119, 3) := by decide +kernel
theorem dX11_simulate_99 : decode cX11_simulate 99 = .ok (.imul, 1) := by decide +kernel
theorem dX11_simulate_100 : decode cX11_simulate 100 = .ok (.iload 6, 2) := by decide +kernel
theorem dX11_simulate_102 : decode cX11_simulate 102 = .ok (.sipush 9999, 3) := by decide +kernel
theorem dX11_simulate_105 : decode cX11_simulate 105 = .ok (.if_icmp .le 9, 3) := by decide +kernel
theorem dX11_simulate_108 : decode cX11_simulate 108 = .ok (.sipush 9999, 3) := by decide +kernel
theorem dX11_simulate_111 : decode cX11_simulate 111 = .ok (.goto 5, 3) := by decide +kernel
theorem dX11_simulate_114 : decode cX11_simulate 114 = .ok (.iload 6, 2) := by decide +kernel
theorem dX11_simulate_116 : decode cX11_simulate 116 = .ok (.iadd, 1) := by decide +kernel
theorem dX11_simulate_117 : decode cX11_simulate 117 = .ok (.ireturn, 1) := by decide +kernel
theorem dX11_save_0 : decode cX11_save 0 = .ok (.aload_n 0, 1) := by decide +kernel
theorem dX11_save_1 : decode cX11_save 1 = .ok (.iload_n 1, 1) := by decide +kernel
theorem dX11_save_2 : decode cX11_save 2 = .ok (.i2l, 1) := by decide +kernel
theorem dX11_save_3 : decode cX11_save 3 = .ok (.lconst 0, 1) := by decide +kernel
theorem dX11_save_4 : decode cX11_save 4 = .ok (.lconst 1, 1) := by decide +kernel
theorem dX11_save_5 : decode cX11_save 5 = .ok (.invokestatic 39, 3) := by decide +kernel
theorem dX11_save_8 : decode cX11_save 8 = .ok (.ifCond .eq 7, 3) := by decide +kernel
theorem dX11_save_11 : decode cX11_save 11 = .ok (.iconst 0, 1) := by decide +kernel
theorem dX11_save_12 : decode cX11_save 12 = .ok (.goto 4, 3) := by decide +kernel
theorem dX11_save_15 : decode cX11_save 15 = .ok (.iconst 1, 1) := by decide +kernel
theorem dX11_save_16 : decode cX11_save 16 = .ok (.invokevirtual 76, 3) := by decide +kernel
theorem dX11_save_19 : decode cX11_save 19 = .ok (.ifCond .eq 5, 3) := by decide +kernel
theorem dX11_save_22 : decode cX11_save 22 = .ok (.iconst 0, 1) := by decide +kernel
theorem dX11_save_23 : decode cX11_save 23 = .ok (.ireturn, 1) := by decide +kernel
theorem dX11_save_24 : decode cX11_save 24 = .ok (.aload_n 0, 1) := by decide +kernel
theorem dX11_save_25 : decode cX11_save 25 = .ok (.getfield 28, 3) := by decide +kernel
theorem dX11_save_28 : decode cX11_save 28 = .ok (.iload_n 1, 1) := by decide +kernel
theorem dX11_save_29 : decode cX11_save 29 = .ok (.iconst 1, 1) := by decide +kernel
theorem dX11_save_30 : decode cX11_save 30 = .ok (.bastore, 1) := by decide +kernel
theorem dX11_save_31 : decode cX11_save 31 = .ok (.aload_n 0, 1) := by decide +kernel
theorem dX11_save_32 : decode cX11_save 32 = .ok (.getfield 16, 3) := by decide +kernel
theorem dX11_save_35 : decode cX11_save 35 = .ok (.iconst 0, 1) := by decide +kernel
theorem dX11_save_36 : decode cX11_save 36 = .ok (.aload_n 0, 1) := by decide +kernel
theorem dX11_save_37 : decode cX11_save 37 = .ok (.getfield 25, 3) := by decide +kernel
theorem dX11_save_40 : decode cX11_save 40 = .ok (.sipush 194, 3) := by decide +kernel
theorem dX11_save_43 : decode cX11_save 43 = .ok (.iload_n 1, 1) := by decide +kernel
theorem dX11_save_44 : decode cX11_save 44 = .ok (.imul, 1) := by decide +kernel
theorem dX11_save_45 : decode cX11_save 45 = .ok (.invokestatic 110, 3) := by decide +kernel
theorem dX11_save_48 : decode cX11_save 48 = .ok (.aload_n 0, 1) := by decide +kernel
theorem dX11_save_49 : decode cX11_save 49 = .ok (.getfield 16, 3) := by decide +kernel
theorem dX11_save_52 : decode cX11_save 52 = .ok (.iconst 1, 1) := by decide +kernel
theorem dX11_save_53 : decode cX11_save 53 = .ok (.iaload, 1) := by decide +kernel
theorem dX11_save_54 : decode cX11_save 54 = .ok (.ireturn, 1) := by decide +kernel
theorem dX11_restore_0 : decode cX11_restore 0 = .ok (.aload_n 0, 1) := by decide +kernel
theorem dX11_restore_1 : decode cX11_restore 1 = .ok (.iload_n 1, 1) := by decide +kernel
theorem dX11_restore_2 : decode cX11_restore 2 = .ok (.i2l, 1) := by decide +kernel
theorem dX11_restore_3 : decode cX11_restore 3 = .ok (.lconst 0, 1) := by decide +kernel
theorem dX11_restore_4 : decode cX11_restore 4 = .ok (.lconst 1, 1) := by decide +kernel
theorem dX11_restore_5 : decode cX11_restore 5 = .ok (.invokestatic 39, 3) := by decide +kernel
theorem dX11_restore_8 : decode cX11_restore 8 = .ok (.ifCond .ne 7, 3) := by decide +kernel
theorem dX11_restore_11 : decode cX11_restore 11 = .ok (.iconst 1, 1) := by decide +kernel
theorem dX11_restore_12 : decode cX11_restore 12 = .ok (.goto 17, 3) := by decide +kernel
theorem dX11_restore_15 : decode cX11_restore 15 = .ok (.aload_n 0, 1) := by decide +kernel
theorem dX11_restore_16 : decode cX11_restore 16 = .ok (.getfield 28, 3) := by decide +kernel
theorem dX11_restore_19 : decode cX11_restore 19 = .ok (.iload_n 1, 1) := by decide +kernel
theorem dX11_restore_20 : decode cX11_restore 20 = .ok (.baload, 1) := by decide +kernel
theorem dX11_restore_21 : decode cX11_restore 21 = .ok (.ifCond .ne 7, 3) := by decide +kernel
theorem dX11_restore_24 : decode cX11_restore 24 = .ok (.iconst 2, 1) := by decide +kernel
theorem dX11_restore_25 : decode cX11_restore 25 = .ok (.goto 4, 3) := by decide +kernel
theorem dX11_restore_28 : decode cX11_restore 28 = .ok (.iconst 0, 1) := by decide +kernel
theorem dX11_restore_29 : decode cX11_restore 29 = .ok (.invokevirtual 76, 3) := by decide +kernel
theorem dX11_restore_32 : decode cX11_restore 32 = .ok (.ifCond .eq 5, 3) := by decide +kernel
theorem dX11_restore_35 : decode cX11_restore 35 = .ok (.iconst 0, 1) := by decide +kernel
theorem dX11_restore_36 : decode cX11_restore 36 = .ok (.ireturn, 1) := by decide +kernel
theorem dX11_restore_37 : decode cX11_restore 37 = .ok (.aload_n 0, 1) := by decide +kernel
theorem dX11_restore_38 : decode cX11_restore 38 = .ok (.getfield 25, 3) := by decide +kernel
theorem dX11_restore_41 : decode cX11_restore 41 = .ok (.sipush 194, 3) := by decide +kernel
theorem dX11_restore_44 : decode cX11_restore 44 = .ok (.iload_n 1, 1) := by decide +kernel
theorem dX11_restore_45 : decode cX11_restore 45 = .ok (.imul, 1) := by decide +kernel
theorem dX11_restore_46 : decode cX11_restore 46 = .ok (.aload_n 0, 1) := by decide +kernel
theorem dX11_restore_47 : decode cX11_restore 47 = .ok (.getfield 16, 3) := by decide +kernel
theorem dX11_restore_50 : decode cX11_restore 50 = .ok (.iconst 0, 1) := by decide +kernel
theorem dX11_restore_51 : decode cX11_restore 51 = .ok (.invokestatic 110, 3) := by decide +kernel
theorem dX11_restore_54 : decode cX11_restore 54 = .ok (.aload_n 0, 1) := by decide +kernel
theorem dX11_restore_55 : decode cX11_restore 55 = .ok (.iconst 0, 1) := by decide +kernel
theorem dX11_restore_56 : decode cX11_restore 56 = .ok (.putfield 114, 3) := by decide +kernel
theorem dX11_restore_59 : decode cX11_restore 59 = .ok (.aload_n 0, 1) := by decide +kernel
theorem dX11_restore_60 : decode cX11_restore 60 = .ok (.getfield 16, 3) := by decide +kernel
theorem dX11_restore_63 : decode cX11_restore 63 = .ok (.iconst 1, 1) := by decide +kernel
theorem dX11_restore_64 : decode cX11_restore 64 = .ok (.iaload, 1) := by decide +kernel
theorem dX11_restore_65 : decode cX11_restore 65 = .ok (.ireturn, 1) := by decide +kernel
