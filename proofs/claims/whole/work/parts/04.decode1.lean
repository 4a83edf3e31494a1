theorem dX0_init_0 : decode cX0_init 0 = .ok (.aload_n 0, 1) := by decide +kernel
theorem dX0_init_1 : decode cX0_init 1 = .ok (.invokespecial 3, 3) := by decide +kernel
theorem dX0_init_4 : decode cX0_init 4 = .ok (.aload_n 0, 1) := by decide +kernel
theorem dX0_init_5 : decode cX0_init 5 = .ok (.bipush 6, 2) := by decide +kernel
theorem dX0_init_7 : decode cX0_init 7 = .ok (.newarray .int, 2) := by decide +kernel
theorem dX0_init_9 : decode cX0_init 9 = .ok (.putfield 9, 3) := by decide +kernel
theorem dX0_init_12 : decode cX0_init 12 = .ok (.aload_n 0, 1) := by decide +kernel
theorem dX0_init_13 : decode cX0_init 13 = .ok (.bipush 6, 2) := by decide +kernel
theorem dX0_init_15 : decode cX0_init 15 = .ok (.newarray .int, 2) := by decide +kernel
theorem dX0_init_17 : decode cX0_init 17 = .ok (.putfield 15, 3) := by decide +kernel
theorem dX0_init_20 : decode cX0_init 20 = .ok (.aload_n 0, 1) := by decide +kernel
theorem dX0_init_21 : decode cX0_init 21 = .ok (.bipush 18, 2) := by decide +kernel
theorem dX0_init_23 : decode cX0_init 23 = .ok (.newarray .int, 2) := by decide +kernel
theorem dX0_init_25 : decode cX0_init 25 = .ok (.putfield 18, 3) := by decide +kernel
theorem dX0_init_28 : decode cX0_init 28 = .ok (.aload_n 0, 1) := by decide +kernel
theorem dX0_init_29 : decode cX0_init 29 = .ok (.iconst 0, 1) := by decide +kernel
theorem dX0_init_30 : decode cX0_init 30 = .ok (.putfield 21, 3) := by decide +kernel
theorem dX0_init_33 : decode cX0_init 33 = .ok (.aload_n 0, 1) := by decide +kernel
theorem dX0_init_34 : decode cX0_init 34 = .ok (.iconst 0, 1) := by decide +kernel
theorem dX0_init_35 : decode cX0_init 35 = .ok (.putfield 25, 3) := by decide +kernel
theorem dX0_init_38 : decode cX0_init 38 = .ok (.aload_n 0, 1) := by decide +kernel
theorem dX0_init_39 : decode cX0_init 39 = .ok (.iconst 0, 1) := by decide +kernel
theorem dX0_init_40 : decode cX0_init 40 = .ok (.putfield 28, 3) := by decide +kernel
theorem dX0_init_43 : decode cX0_init 43 = .ok (.aload_n 0, 1) := by decide +kernel
theorem dX0_init_44 : decode cX0_init 44 = .ok (.iconst 0, 1) := by decide +kernel
theorem dX0_init_45 : decode cX0_init 45 = .ok (.putfield 31, 3) := by decide +kernel
theorem dX0_init_48 : decode cX0_init 48 = .ok (.aload_n 0, 1) := by decide +kernel
theorem dX0_init_49 : decode cX0_init 49 = .ok (.iconst 0, 1) := by decide +kernel
theorem dX0_init_50 : decode cX0_init 50 = .ok (.putfield 34, 3) := by decide +kernel
theorem dX0_init_53 : decode cX0_init 53 = .ok (.aload_n 0, 1) := by decide +kernel
theorem dX0_init_54 : decode cX0_init 54 = .ok (.iconst 0, 1) := by decide +kernel
theorem dX0_init_55 : decode cX0_init 55 = .ok (.putfield 37, 3) := by decide +kernel
theorem dX0_init_58 : decode cX0_init 58 = .ok (.aload_n 0, 1) := by decide +kernel
theorem dX0_init_59 : decode cX0_init 59 = .ok (.iconst 0, 1) := by decide +kernel
theorem dX0_init_60 : decode cX0_init 60 = .ok (.putfield 41, 3) := by decide +kernel
theorem dX0_init_63 : decode cX0_init 63 = .ok (.aload_n 0, 1) := by decide +kernel
theorem dX0_init_64 : decode cX0_init 64 = .ok (.iload_n 1, 1) := by decide +kernel
theorem dX0_init_65 : decode cX0_init 65 = .ok (.putfield 44, 3) := by decide +kernel
theorem dX0_init_68 : decode cX0_init 68 = .ok (.aload_n 0, 1) := by decide +kernel
theorem dX0_init_69 : decode cX0_init 69 = .ok (.iload_n 2, 1) := by decide +kernel
theorem dX0_init_70 : decode cX0_init 70 = .ok (.putfield 47, 3) := by decide +kernel
theorem dX0_init_73 : decode cX0_init 73 = .ok (.return_, 1) := by decide +kernel
theorem dX0_totalDeclared_0 : decode cX0_totalDeclared 0 = .ok (.iconst 0, 1) := by decide +kernel
theorem dX0_totalDeclared_1 : decode cX0_totalDeclared 1 = .ok (.istore_n 1, 1) := by decide +kernel
theorem dX0_totalDeclared_2 : decode cX0_totalDeclared 2 = .ok (.aload_n 0, 1) := by decide +kernel
theorem dX0_totalDeclared_3 : decode cX0_totalDeclared 3 = .ok (.getfield 9, 3) := by decide +kernel
theorem dX0_totalDeclared_6 : decode cX0_totalDeclared 6 = .ok (.astore_n 2, 1) := by decide +kernel
theorem dX0_totalDeclared_7 : decode cX0_totalDeclared 7 = .ok (.aload_n 2, 1) := by decide +kernel
theorem dX0_totalDeclared_8 : decode cX0_totalDeclared 8 = .ok (.arraylength, 1) := by decide +kernel
theorem dX0_totalDeclared_9 : decode cX0_totalDeclared 9 = .ok (.istore_n 3, 1) := by decide +kernel
theorem dX0_totalDeclared_10 : decode cX0_totalDeclared 10 = .ok (.iconst 0, 1) := by decide +kernel
theorem dX0_totalDeclared_11 : decode cX0_totalDeclared 11 = .ok (.istore 4, 2) := by decide +kernel
theorem dX0_totalDeclared_13 : decode cX0_totalDeclared 13 = .ok (.iload 4, 2) := by decide +kernel
theorem dX0_totalDeclared_15 : decode cX0_totalDeclared 15 = .ok (.iload_n 3, 1) := by decide +kernel
theorem dX0_totalDeclared_16 : decode cX0_totalDeclared 16 = .ok (.if_icmp .ge 20, 3) := by decide +kernel
theorem dX0_totalDeclared_19 : decode cX0_totalDeclared 19 = .ok (.aload_n 2, 1) := by decide +kernel
theorem dX0_totalDeclared_20 : decode cX0_totalDeclared 20 = .ok (.iload 4, 2) := by decide +kernel
theorem dX0_totalDeclared_22 : decode cX0_totalDeclared 22 = .ok (.iaload, 1) := by decide +kernel
theorem dX0_totalDeclared_23 : decode cX0_totalDeclared 23 = .ok (.istore 5, 2) := by decide +kernel
theorem dX0_totalDeclared_25 : decode cX0_totalDeclared 25 = .ok (.iload_n 1, 1) := by decide +kernel
theorem dX0_totalDeclared_26 : decode cX0_totalDeclared 26 = .ok (.iload 5, 2) := by decide +kernel
theorem dX0_totalDeclared_28 : decode cX0_totalDeclared 28 = .ok (.iadd, 1) := by decide +kernel
theorem dX0_totalDeclared_29 : decode cX0_totalDeclared 29 = .ok (.istore_n 1, 1) := by decide +kernel
theorem dX0_totalDeclared_30 : decode cX0_totalDeclared 30 = .ok (.iinc 4 1, 3) := by decide +kernel
theorem dX0_totalDeclared_33 : decode cX0_totalDeclared 33 = .ok (.goto (-20), 3) := by decide +kernel
theorem dX0_totalDeclared_36 : decode cX0_totalDeclared 36 = .ok (.iload_n 1, 1) := by decide +kernel
theorem dX0_totalDeclared_37 : decode cX0_totalDeclared 37 = .ok (.ireturn, 1) := by decide +kernel
theorem dX0_wasSearched_0 : decode cX0_wasSearched 0 = .ok (.aload_n 0, 1) := by decide +kernel
theorem dX0_wasSearched_1 : decode cX0_wasSearched 1 = .ok (.getfield 31, 3) := by decide +kernel
theorem dX0_wasSearched_4 : decode cX0_wasSearched 4 = .ok (.bipush 63, 2) := by decide +kernel
theorem dX0_wasSearched_6 : decode cX0_wasSearched 6 = .ok (.if_icmp .ne 7, 3) := by decide +kernel
theorem dX0_wasSearched_9 : decode cX0_wasSearched 9 = .ok (.iconst 1, 1) := by decide +kernel
theorem dX0_wasSearched_10 : decode cX0_wasSearched 10 = .ok (.goto 4, 3) := by decide +kernel
theorem dX0_wasSearched_13 : decode cX0_wasSearched 13 = .ok (.iconst 0, 1) := by decide +kernel
theorem dX0_wasSearched_14 : decode cX0_wasSearched 14 = .ok (.ireturn, 1) := by decide +kernel
theorem dX0_noteSearch_0 : decode cX0_noteSearch 0 = .ok (.aload_n 0, 1) := by decide +kernel
theorem dX0_noteSearch_1 : decode cX0_noteSearch 1 = .ok (.getfield 9, 3) := by decide +kernel
theorem dX0_noteSearch_4 : decode cX0_noteSearch 4 = .ok (.iload_n 1, 1) := by decide +kernel
theorem dX0_noteSearch_5 : decode cX0_noteSearch 5 = .ok (.iaload, 1) := by decide +kernel
theorem dX0_noteSearch_6 : decode cX0_noteSearch 6 = .ok (.iload_n 2, 1) := by decide +kernel
theorem dX0_noteSearch_7 : decode cX0_noteSearch 7 = .ok (.if_icmp .eq 20, 3) := by decide +kernel
theorem dX0_noteSearch_10 : decode cX0_noteSearch 10 = .ok (.aload_n 0, 1) := by decide +kernel
theorem dX0_noteSearch_11 : decode cX0_noteSearch 11 = .ok (.getfield 9, 3) := by decide +kernel
theorem dX0_noteSearch_14 : decode cX0_noteSearch 14 = .ok (.iload_n 1, 1) := by decide +kernel
theorem dX0_noteSearch_15 : decode cX0_noteSearch 15 = .ok (.iload_n 2, 1) := by decide +kernel
theorem dX0_noteSearch_16 : decode cX0_noteSearch 16 = .ok (.iastore, 1) := by decide +kernel
theorem dX0_noteSearch_17 : decode cX0_noteSearch 17 = .ok (.aload_n 0, 1) := by decide +kernel
theorem dX0_noteSearch_18 : decode cX0_noteSearch 18 = .ok (.dup, 1) := by decide +kernel
theorem dX0_noteSearch_19 : decode cX0_noteSearch 19 = .ok (.getfield 28, 3) := by decide +kernel
theorem dX0_noteSearch_22 : decode cX0_noteSearch 22 = .ok (.iconst 1, 1) := by decide +kernel
theorem dX0_noteSearch_23 : decode cX0_noteSearch 23 = .ok (.iadd, 1) := by decide +kernel
theorem dX0_noteSearch_24 : decode cX0_noteSearch 24 = .ok (.putfield 28, 3) := by decide +kernel
theorem dX0_noteSearch_27 : decode cX0_noteSearch 27 = .ok (.aload_n 0, 1) := by decide +kernel
theorem dX0_noteSearch_28 : decode cX0_noteSearch 28 = .ok (.dup, 1) := by decide +kernel
theorem dX0_noteSearch_29 : decode cX0_noteSearch 29 = .ok (.getfield 31, 3) := by decide +kernel
theorem dX0_noteSearch_32 : decode cX0_noteSearch 32 = .ok (.iconst 1, 1) := by decide +kernel
theorem dX0_noteSearch_33 : decode cX0_noteSearch 33 = .ok (.iload_n 1, 1) := by decide +kernel
theorem dX0_noteSearch_34 : decode cX0_noteSearch 34 = .ok (.ishl, 1) := by decide +kernel
theorem dX0_noteSearch_35 : decode cX0_noteSearch 35 = .ok (.ior, 1) := by decide +kernel
theorem dX0_noteSearch_36 : decode cX0_noteSearch 36 = .ok (.putfield 31, 3) := by decide +kernel
theorem dX0_noteSearch_39 : decode cX0_noteSearch 39 = .ok (.return_, 1) := by decide +kernel
theorem dX0_enterStore_0 : decode cX0_enterStore 0 = .ok (.iconst 0, 1) := by decide +kernel
theorem dX0_enterStore_1 : decode cX0_enterStore 1 = .ok (.istore_n 3, 1) := by decide +kernel
theorem dX0_enterStore_2 : decode cX0_enterStore 2 = .ok (.iload_n 3, 1) := by decide +kernel
theorem dX0_enterStore_3 : decode cX0_enterStore 3 = .ok (.bipush 6, 2) := by decide +kernel
theorem dX0_enterStore_5 : decode cX0_enterStore 5 = .ok (.if_icmp .ge 34, 3) := by decide +kernel
theorem dX0_enterStore_8 : decode cX0_enterStore 8 = .ok (.aload_n 0, 1) := by decide +kernel
theorem dX0_enterStore_9 : decode cX0_enterStore 9 = .ok (.getfield 18, 3) := by decide +kernel
theorem dX0_enterStore_12 : decode cX0_enterStore 12 = .ok (.iload_n 3, 1) := by decide +kernel
theorem dX0_enterStore_13 : decode cX0_enterStore 13 = .ok (.iload_n 1, 1) := by decide +kernel
theorem dX0_enterStore_14 : decode cX0_enterStore 14 = .ok (.invokestatic 50, 3) := by decide +kernel
theorem dX0_enterStore_17 : decode cX0_enterStore 17 = .ok (.aload_n 0, 1) := by decide +kernel
theorem dX0_enterStore_18 : decode cX0_enterStore 18 = .ok (.getfield 9, 3) := by decide +kernel
theorem dX0_enterStore_21 : decode cX0_enterStore 21 = .ok (.iload_n 3, 1) := by decide +kernel
theorem dX0_enterStore_22 : decode cX0_enterStore 22 = .ok (.iaload, 1) := by decide +kernel
theorem dX0_enterStore_23 : decode cX0_enterStore 23 = .ok (.iastore, 1) := by decide +kernel
theorem dX0_enterStore_24 : decode cX0_enterStore 24 = .ok (.aload_n 0, 1) := by decide +kernel
theorem dX0_enterStore_25 : decode cX0_enterStore 25 = .ok (.getfield 15, 3) := by decide +kernel
theorem dX0_enterStore_28 : decode cX0_enterStore 28 = .ok (.iload_n 3, 1) := by decide +kernel
theorem dX0_enterStore_29 : decode cX0_enterStore 29 = .ok (.aload_n 2, 1) := by decide +kernel
theorem dX0_enterStore_30 : decode cX0_enterStore 30 = .ok (.iload_n 3, 1) := by decide +kernel
theorem dX0_enterStore_31 : decode cX0_enterStore 31 = .ok (.iaload, 1) := by decide +kernel
theorem dX0_enterStore_32 : decode cX0_enterStore 32 = .ok (.iastore, 1) := by decide +kernel
theorem dX0_enterStore_33 : decode cX0_enterStore 33 = .ok (.iinc 3 1, 3) := by decide +kernel
theorem dX0_enterStore_36 : decode cX0_enterStore 36 = .ok (.goto (-34), 3) := by decide +kernel
theorem dX0_enterStore_39 : decode cX0_enterStore 39 = .ok (.aload_n 0, 1) := by decide +kernel
theorem dX0_enterStore_40 : decode cX0_enterStore 40 = .ok (.aload_n 0, 1) := by decide +kernel
theorem dX0_enterStore_41 : decode cX0_enterStore 41 = .ok (.invokevirtual 54, 3) := by decide +kernel
theorem dX0_enterStore_44 : decode cX0_enterStore 44 = .ok (.putfield 34, 3) := by decide +kernel
theorem dX0_enterStore_47 : decode cX0_enterStore 47 = .ok (.aload_n 0, 1) := by decide +kernel
theorem dX0_enterStore_48 : decode cX0_enterStore 48 = .ok (.aload_n 0, 1) := by decide +kernel
theorem dX0_enterStore_49 : decode cX0_enterStore 49 = .ok (.getfield 34, 3) := by decide +kernel
theorem dX0_enterStore_52 : decode cX0_enterStore 52 = .ok (.ifCond .ne 7, 3) := by decide +kernel
theorem dX0_enterStore_55 : decode cX0_enterStore 55 = .ok (.iconst 3, 1) := by decide +kernel
theorem dX0_enterStore_56 : decode cX0_enterStore 56 = .ok (.goto 4, 3) := by decide +kernel
theorem dX0_enterStore_59 : decode cX0_enterStore 59 = .ok (.iconst 2, 1) := by decide +kernel
theorem dX0_enterStore_60 : decode cX0_enterStore 60 = .ok (.putfield 21, 3) := by decide +kernel
theorem dX0_enterStore_63 : decode cX0_enterStore 63 = .ok (.return_, 1) := by decide +kernel
theorem dX1_init_0 : decode cX1_init 0 = .ok (.aload_n 0, 1) := by decide +kernel
theorem dX1_init_1 : decode cX1_init 1 = .ok (.invokespecial 1, 3) := by decide +kernel
theorem dX1_init_4 : decode cX1_init 4 = .ok (.aload_n 0, 1) := by decide +kernel
theorem dX1_init_5 : decode cX1_init 5 = .ok (.bipush 6, 2) := by decide +kernel
theorem dX1_init_7 : decode cX1_init 7 = .ok (.newarray .int, 2) := by decide +kernel
theorem dX1_init_9 : decode cX1_init 9 = .ok (.putfield 9, 3) := by decide +kernel
theorem dX1_init_12 : decode cX1_init 12 = .ok (.aload_n 0, 1) := by decide +kernel
theorem dX1_init_13 : decode cX1_init 13 = .ok (.bipush 6, 2) := by decide +kernel
theorem dX1_init_15 : decode cX1_init 15 = .ok (.newarray .int, 2) := by decide +kernel
theorem dX1_init_17 : decode cX1_init 17 = .ok (.putfield 13, 3) := by decide +kernel
theorem dX1_init_20 : decode cX1_init 20 = .ok (.aload_n 0, 1) := by decide +kernel
theorem dX1_init_21 : decode cX1_init 21 = .ok (.iconst 4, 1) := by decide +kernel
theorem dX1_init_22 : decode cX1_init 22 = .ok (.newarray .int, 2) := by decide +kernel
theorem dX1_init_24 : decode cX1_init 24 = .ok (.putfield 16, 3) := by decide +kernel
theorem dX1_init_27 : decode cX1_init 27 = .ok (.aload_n 0, 1) := by decide +kernel
theorem dX1_init_28 : decode cX1_init 28 = .ok (.iconst 4, 1) := by decide +kernel
theorem dX1_init_29 : decode cX1_init 29 = .ok (.newarray .int, 2) := by decide +kernel
theorem dX1_init_31 : decode cX1_init 31 = .ok (.putfield 19, 3) := by decide +kernel
theorem dX1_init_34 : decode cX1_init 34 = .ok (.aload_n 0, 1) := by decide +kernel
theorem dX1_init_35 : decode cX1_init 35 = .ok (.iconst 4, 1) := by decide +kernel
theorem dX1_init_36 : decode cX1_init 36 = .ok (.newarray .int, 2) := by decide +kernel
theorem dX1_init_38 : decode cX1_init 38 = .ok (.putfield 22, 3) := by decide +kernel
theorem dX1_init_41 : decode cX1_init 41 = .ok (.aload_n 0, 1) := by decide +kernel
theorem dX1_init_42 : decode cX1_init 42 = .ok (.bipush 15, 2) := by decide +kernel
theorem dX1_init_44 : decode cX1_init 44 = .ok (.anewarray 25, 3) := by decide +kernel
theorem dX1_init_47 : decode cX1_init 47 = .ok (.putfield 27, 3) := by decide +kernel
theorem dX1_init_50 : decode cX1_init 50 = .ok (.aload_n 0, 1) := by decide +kernel
theorem dX1_init_51 : decode cX1_init 51 = .ok (.iconst 0, 1) := by decide +kernel
theorem dX1_init_52 : decode cX1_init 52 = .ok (.putfield 31, 3) := by decide +kernel
theorem dX1_init_55 : decode cX1_init 55 = .ok (.aload_n 0, 1) := by decide +kernel
theorem dX1_init_56 : decode cX1_init 56 = .ok (.iconst 0, 1) := by decide +kernel
theorem dX1_init_57 : decode cX1_init 57 = .ok (.putfield 35, 3) := by decide +kernel
theorem dX1_init_60 : decode cX1_init 60 = .ok (.aload_n 0, 1) := by decide +kernel
theorem dX1_init_61 : decode cX1_init 61 = .ok (.bipush 25, 2) := by decide +kernel
theorem dX1_init_63 : decode cX1_init 63 = .ok (.putfield 38, 3) := by decide +kernel
theorem dX1_init_66 : decode cX1_init 66 = .ok (.aload_n 0, 1) := by decide +kernel
theorem dX1_init_67 : decode cX1_init 67 = .ok (.iconst 0, 1) := by decide +kernel
theorem dX1_init_68 : decode cX1_init 68 = .ok (.putfield 41, 3) := by decide +kernel
theorem dX1_init_71 : decode cX1_init 71 = .ok (.iconst 0, 1) := by decide +kernel
theorem dX1_init_72 : decode cX1_init 72 = .ok (.istore_n 1, 1) := by decide +kernel
theorem dX1_init_73 : decode cX1_init 73 = .ok (.iload_n 1, 1) := by decide +kernel
theorem dX1_init_74 : decode cX1_init 74 = .ok (.bipush 6, 2) := by decide +kernel
theorem dX1_init_76 : decode cX1_init 76 = .ok (.if_icmp .ge 16, 3) := by decide +kernel
theorem dX1_init_79 : decode cX1_init 79 = .ok (.aload_n 0, 1) := by decide +kernel
theorem dX1_init_80 : decode cX1_init 80 = .ok (.getfield 9, 3) := by decide +kernel
theorem dX1_init_83 : decode cX1_init 83 = .ok (.iload_n 1, 1) := by decide +kernel
theorem dX1_init_84 : decode cX1_init 84 = .ok (.iconst 1, 1) := by decide +kernel
theorem dX1_init_85 : decode cX1_init 85 = .ok (.iastore, 1) := by decide +kernel
theorem dX1_init_86 : decode cX1_init 86 = .ok (.iinc 1 1, 3) := by decide +kernel
theorem dX1_init_89 : decode cX1_init 89 = .ok (.goto (-16), 3) := by decide +kernel
theorem dX1_init_92 : decode cX1_init 92 = .ok (.return_, 1) := by decide +kernel
theorem dX1_setSort_0 : decode cX1_setSort 0 = .ok (.iload_n 1, 1) := by decide +kernel
theorem dX1_setSort_1 : decode cX1_setSort 1 = .ok (.invokestatic 44, 3) := by decide +kernel
theorem dX1_setSort_4 : decode cX1_setSort 4 = .ok (.iload_n 2, 1) := by decide +kernel
theorem dX1_setSort_5 : decode cX1_setSort 5 = .ok (.iconst 0, 1) := by decide +kernel
theorem dX1_setSort_6 : decode cX1_setSort 6 = .ok (.bipush 50, 2) := by decide +kernel
theorem dX1_setSort_8 : decode cX1_setSort 8 = .ok (.invokestatic 48, 3) := by decide +kernel
theorem dX1_setSort_11 : decode cX1_setSort 11 = .ok (.iload_n 3, 1) := by decide +kernel
theorem dX1_setSort_12 : decode cX1_setSort 12 = .ok (.iconst 0, 1) := by decide +kernel
theorem dX1_setSort_13 : decode cX1_setSort 13 = .ok (.bipush 20, 2) := by decide +kernel
theorem dX1_setSort_15 : decode cX1_setSort 15 = .ok (.invokestatic 48, 3) := by decide +kernel
theorem dX1_setSort_18 : decode cX1_setSort 18 = .ok (.aload_n 0, 1) := by decide +kernel
theorem dX1_setSort_19 : decode cX1_setSort 19 = .ok (.getfield 9, 3) := by decide +kernel
theorem dX1_setSort_22 : decode cX1_setSort 22 = .ok (.iload_n 1, 1) := by decide +kernel
theorem dX1_setSort_23 : decode cX1_setSort 23 = .ok (.iload_n 2, 1) := by decide +kernel
theorem dX1_setSort_24 : decode cX1_setSort 24 = .ok (.iastore, 1) := by decide +kernel
theorem dX1_setSort_25 : decode cX1_setSort 25 = .ok (.aload_n 0, 1) := by decide +kernel
theorem dX1_setSort_26 : decode cX1_setSort 26 = .ok (.getfield 13, 3) := by decide +kernel
theorem dX1_setSort_29 : decode cX1_setSort 29 = .ok (.iload_n 1, 1) := by decide +kernel
theorem dX1_setSort_30 : decode cX1_setSort 30 = .ok (.iload_n 3, 1) := by decide +kernel
theorem dX1_setSort_31 : decode cX1_setSort 31 = .ok (.iastore, 1) := by decide +kernel
theorem dX1_setSort_32 : decode cX1_setSort 32 = .ok (.return_, 1) := by decide +kernel
theorem dX1_setRisk_0 : decode cX1_setRisk 0 = .ok (.iload_n 1, 1) := by decide +kernel
theorem dX1_setRisk_1 : decode cX1_setRisk 1 = .ok (.iconst 0, 1) := by decide +kernel
theorem dX1_setRisk_2 : decode cX1_setRisk 2 = .ok (.sipush 200, 3) := by decide +kernel
theorem dX1_setRisk_5 : decode cX1_setRisk 5 = .ok (.invokestatic 48, 3) := by decide +kernel
theorem dX1_setRisk_8 : decode cX1_setRisk 8 = .ok (.iload_n 2, 1) := by decide +kernel
theorem dX1_setRisk_9 : decode cX1_setRisk 9 = .ok (.iconst 0, 1) := by decide +kernel
theorem dX1_setRisk_10 : decode cX1_setRisk 10 = .ok (.bipush 10, 2) := by decide +kernel
theorem dX1_setRisk_12 : decode cX1_setRisk 12 = .ok (.invokestatic 48, 3) := by decide +kernel
theorem dX1_setRisk_15 : decode cX1_setRisk 15 = .ok (.aload_n 0, 1) := by decide +kernel
theorem dX1_setRisk_16 : decode cX1_setRisk 16 = .ok (.iload_n 1, 1) := by decide +kernel
theorem dX1_setRisk_17 : decode cX1_setRisk 17 = .ok (.putfield 38, 3) := by decide +kernel
theorem dX1_setRisk_20 : decode cX1_setRisk 20 = .ok (.aload_n 0, 1) := by decide +kernel
theorem dX1_setRisk_21 : decode cX1_setRisk 21 = .ok (.iload_n 2, 1) := by decide +kernel
theorem dX1_setRisk_22 : decode cX1_setRisk 22 = .ok (.putfield 41, 3) := by decide +kernel
theorem dX1_setRisk_25 : decode cX1_setRisk 25 = .ok (.aload_n 0, 1) := by decide +kernel
theorem dX1_setRisk_26 : decode cX1_setRisk 26 = .ok (.invokevirtual 52, 3) := by decide +kernel
theorem dX1_setRisk_29 : decode cX1_setRisk 29 = .ok (.ireturn, 1) := by decide +kernel
theorem dX1_setGuarantee_0 : decode cX1_setGuarantee 0 = .ok (.iload_n 1, 1) := by decide +kernel
theorem dX1_setGuarantee_1 : decode cX1_setGuarantee 1 = .ok (.invokestatic 56, 3) := by decide +kernel
theorem dX1_setGuarantee_4 : decode cX1_setGuarantee 4 = .ok (.iload_n 2, 1) := by decide +kernel
theorem dX1_setGuarantee_5 : decode cX1_setGuarantee 5 = .ok (.iconst 0, 1) := by decide +kernel
theorem dX1_setGuarantee_6 : decode cX1_setGuarantee 6 = .ok (.ldc 59, 2) := by decide +kernel
theorem dX1_setGuarantee_8 : decode cX1_setGuarantee 8 = .ok (.invokestatic 48, 3) := by decide +kernel
theorem dX1_setGuarantee_11 : decode cX1_setGuarantee 11 = .ok (.aload_n 0, 1) := by decide +kernel
theorem dX1_setGuarantee_12 : decode cX1_setGuarantee 12 = .ok (.getfield 19, 3) := by decide +kernel
theorem dX1_setGuarantee_15 : decode cX1_setGuarantee 15 = .ok (.iload_n 1, 1) := by decide +kernel
theorem dX1_setGuarantee_16 : decode cX1_setGuarantee 16 = .ok (.iaload, 1) := by decide +kernel
theorem dX1_setGuarantee_17 : decode cX1_setGuarantee 17 = .ok (.iload_n 2, 1) := by decide +kernel
theorem dX1_setGuarantee_18 : decode cX1_setGuarantee 18 = .ok (.if_icmp .le 13, 3) := by decide +kernel
theorem dX1_setGuarantee_21 : decode cX1_setGuarantee 21 = .ok (.new 60, 3) := by decide +kernel
theorem dX1_setGuarantee_24 : decode cX1_setGuarantee 24 = .ok (.dup, 1) := by decide +kernel
theorem dX1_setGuarantee_25 : decode cX1_setGuarantee 25 = .ok (.ldc 62, 2) := by decide +kernel
theorem dX1_setGuarantee_27 : decode cX1_setGuarantee 27 = .ok (.invokespecial 64, 3) := by decide +kernel
theorem dX1_setGuarantee_30 : decode cX1_setGuarantee 30 = .ok (.athrow, 1) := by decide +kernel
theorem dX1_setGuarantee_31 : decode cX1_setGuarantee 31 = .ok (.aload_n 0, 1) := by decide +kernel
theorem dX1_setGuarantee_32 : decode cX1_setGuarantee 32 = .ok (.getfield 16, 3) := by decide +kernel
theorem dX1_setGuarantee_35 : decode cX1_setGuarantee 35 = .ok (.iload_n 1, 1) := by decide +kernel
theorem dX1_setGuarantee_36 : decode cX1_setGuarantee 36 = .ok (.iaload, 1) := by decide +kernel
theorem dX1_setGuarantee_37 : decode cX1_setGuarantee 37 = .ok (.istore_n 3, 1) := by decide +kernel
theorem dX1_setGuarantee_38 : decode cX1_setGuarantee 38 = .ok (.aload_n 0, 1) := by decide +kernel
theorem dX1_setGuarantee_39 : decode cX1_setGuarantee 39 = .ok (.getfield 16, 3) := by decide +kernel
theorem dX1_setGuarantee_42 : decode cX1_setGuarantee 42 = .ok (.iload_n 1, 1) := by decide +kernel
theorem dX1_setGuarantee_43 : decode cX1_setGuarantee 43 = .ok (.iload_n 2, 1) := by decide +kernel
theorem dX1_setGuarantee_44 : decode cX1_setGuarantee 44 = .ok (.iastore, 1) := by decide +kernel
theorem dX1_setGuarantee_45 : decode cX1_setGuarantee 45 = .ok (.iload_n 3, 1) := by decide +kernel
theorem dX1_setGuarantee_46 : decode cX1_setGuarantee 46 = .ok (.ireturn, 1) := by decide +kernel
theorem dX1_announce_0 : decode cX1_announce 0 = .ok (.iload_n 1, 1) := by decide +kernel
theorem dX1_announce_1 : decode cX1_announce 1 = .ok (.invokestatic 56, 3) := by decide +kernel
theorem dX1_announce_4 : decode cX1_announce 4 = .ok (.iload_n 2, 1) := by decide +kernel
theorem dX1_announce_5 : decode cX1_announce 5 = .ok (.invokestatic 67, 3) := by decide +kernel
theorem dX1_announce_8 : decode cX1_announce 8 = .ok (.aload_n 0, 1) := by decide +kernel
theorem dX1_announce_9 : decode cX1_announce 9 = .ok (.getfield 31, 3) := by decide +kernel
theorem dX1_announce_12 : decode cX1_announce 12 = .ok (.bipush 15, 2) := by decide +kernel
theorem dX1_announce_14 : decode cX1_announce 14 = .ok (.if_icmp .lt 13, 3) := by decide +kernel
theorem dX1_announce_17 : decode cX1_announce 17 = .ok (.new 60, 3) := by decide +kernel
theorem dX1_announce_20 : decode cX1_announce 20 = .ok (.dup, 1) := by decide +kernel
theorem dX1_announce_21 : decode cX1_announce 21 = .ok (.ldc 70, 2) := by decide +kernel
theorem dX1_announce_23 : decode cX1_announce 23 = .ok (.invokespecial 64, 3) := by decide +kernel
theorem dX1_announce_26 : decode cX1_announce 26 = .ok (.athrow, 1) := by decide +kernel
theorem dX1_announce_27 : decode cX1_announce 27 = .ok (.aload_n 0, 1) := by decide +kernel
theorem dX1_announce_28 : decode cX1_announce 28 = .ok (.getfield 31, 3) := by decide +kernel
theorem dX1_announce_31 : decode cX1_announce 31 = .ok (.istore_n 3, 1) := by decide +kernel
theorem dX1_announce_32 : decode cX1_announce 32 = .ok (.aload_n 0, 1) := by decide +kernel
theorem dX1_announce_33 : decode cX1_announce 33 = .ok (.getfield 27, 3) := by decide +kernel
theorem dX1_announce_36 : decode cX1_announce 36 = .ok (.iload_n 3, 1) := by decide +kernel
theorem dX1_announce_37 : decode cX1_announce 37 = .ok (.new 25, 3) := by decide +kernel
theorem dX1_announce_40 : decode cX1_announce 40 = .ok (.dup, 1) := by decide +kernel
theorem dX1_announce_41 : decode cX1_announce 41 = .ok (.iload_n 1, 1) := by decide +kernel
theorem dX1_announce_42 : decode cX1_announce 42 = .ok (.iload_n 2, 1) := by decide +kernel
theorem dX1_announce_43 : decode cX1_announce 43 = .ok (.invokespecial 72, 3) := by decide +kernel
theorem dX1_announce_46 : decode cX1_announce 46 = .ok (.aastore, 1) := by decide +kernel
theorem dX1_announce_47 : decode cX1_announce 47 = .ok (.aload_n 0, 1) := by decide +kernel
theorem dX1_announce_48 : decode cX1_announce 48 = .ok (.iload_n 3, 1) := by decide +kernel
theorem dX1_announce_49 : decode cX1_announce 49 = .ok (.iconst 1, 1) := by decide +kernel
theorem dX1_announce_50 : decode cX1_announce 50 = .ok (.iadd, 1) := by decide +kernel
theorem dX1_announce_51 : decode cX1_announce 51 = .ok (.putfield 31, 3) := by decide +kernel
theorem dX1_announce_54 : decode cX1_announce 54 = .ok (.iload_n 3, 1) := by decide +kernel
theorem dX1_announce_55 : decode cX1_announce 55 = .ok (.ireturn, 1) := by decide +kernel
theorem dX1_amend_0 : decode cX1_amend 0 = .ok (.aload_n 0, 1) := by decide +kernel
theorem dX1_amend_1 : decode cX1_amend 1 = .ok (.iload_n 1, 1) := by decide +kernel
theorem dX1_amend_2 : decode cX1_amend 2 = .ok (.invokevirtual 75, 3) := by decide +kernel
theorem dX1_amend_5 : decode cX1_amend 5 = .ok (.astore 4, 2) := by decide +kernel
theorem dX1_amend_7 : decode cX1_amend 7 = .ok (.iload_n 2, 1) := by decide +kernel
theorem dX1_amend_8 : decode cX1_amend 8 = .ok (.invokestatic 44, 3) := by decide +kernel
theorem dX1_amend_11 : decode cX1_amend 11 = .ok (.iload_n 3, 1) := by decide +kernel
theorem dX1_amend_12 : decode cX1_amend 12 = .ok (.iconst 0, 1) := by decide +kernel
theorem dX1_amend_13 : decode cX1_amend 13 = .ok (.bipush 100, 2) := by decide +kernel
theorem dX1_amend_15 : decode cX1_amend 15 = .ok (.invokestatic 48, 3) := by decide +kernel
theorem dX1_amend_18 : decode cX1_amend 18 = .ok (.aload 4, 2) := by decide +kernel
theorem dX1_amend_20 : decode cX1_amend 20 = .ok (.getfield 79, 3) := by decide +kernel
theorem dX1_amend_23 : decode cX1_amend 23 = .ok (.ifCond .eq 13, 3) := by decide +kernel
theorem dX1_amend_26 : decode cX1_amend 26 = .ok (.new 60, 3) := by decide +kernel
theorem dX1_amend_29 : decode cX1_amend 29 = .ok (.dup, 1) := by decide +kernel
theorem dX1_amend_30 : decode cX1_amend 30 = .ok (.ldc 82, 2) := by decide +kernel
theorem dX1_amend_32 : decode cX1_amend 32 = .ok (.invokespecial 64, 3) := by decide +kernel
theorem dX1_amend_35 : decode cX1_amend 35 = .ok (.athrow, 1) := by decide +kernel
theorem dX1_amend_36 : decode cX1_amend 36 = .ok (.aload 4, 2) := by decide +kernel
theorem dX1_amend_38 : decode cX1_amend 38 = .ok (.getfield 84, 3) := by decide +kernel
theorem dX1_amend_41 : decode cX1_amend 41 = .ok (.iload_n 2, 1) := by decide +kernel
theorem dX1_amend_42 : decode cX1_amend 42 = .ok (.iaload, 1) := by decide +kernel
theorem dX1_amend_43 : decode cX1_amend 43 = .ok (.iload_n 3, 1) := by decide +kernel
theorem dX1_amend_44 : decode cX1_amend 44 = .ok (.if_icmp .ne 13, 3) := by decide +kernel
theorem dX1_amend_47 : decode cX1_amend 47 = .ok (.new 60, 3) := by decide +kernel
theorem dX1_amend_50 : decode cX1_amend 50 = .ok (.dup, 1) := by decide +kernel
theorem dX1_amend_51 : decode cX1_amend 51 = .ok (.ldc 87, 2) := by decide +kernel
theorem dX1_amend_53 : decode cX1_amend 53 = .ok (.invokespecial 64, 3) := by decide +kernel
theorem dX1_amend_56 : decode cX1_amend 56 = .ok (.athrow, 1) := by decide +kernel
theorem dX1_amend_57 : decode cX1_amend 57 = .ok (.aload 4, 2) := by decide +kernel
theorem dX1_amend_59 : decode cX1_amend 59 = .ok (.getfield 84, 3) := by decide +kernel
theorem dX1_amend_62 : decode cX1_amend 62 = .ok (.iload_n 2, 1) := by decide +kernel
theorem dX1_amend_63 : decode cX1_amend 63 = .ok (.iload_n 3, 1) := by decide +kernel
theorem dX1_amend_64 : decode cX1_amend 64 = .ok (.iastore, 1) := by decide +kernel
theorem dX1_amend_65 : decode cX1_amend 65 = .ok (.aload 4, 2) := by decide +kernel
theorem dX1_amend_67 : decode cX1_amend 67 = .ok (.dup, 1) := by decide +kernel
theorem dX1_amend_68 : decode cX1_amend 68 = .ok (.getfield 89, 3) := by decide +kernel
theorem dX1_amend_71 : decode cX1_amend 71 = .ok (.iconst 1, 1) := by decide +kernel
theorem dX1_amend_72 : decode cX1_amend 72 = .ok (.iadd, 1) := by decide +kernel
theorem dX1_amend_73 : decode cX1_amend 73 = .ok (.putfield 89, 3) := by decide +kernel
theorem dX1_amend_76 : decode cX1_amend 76 = .ok (.aload 4, 2) := by decide +kernel
theorem dX1_amend_78 : decode cX1_amend 78 = .ok (.getfield 89, 3) := by decide +kernel
theorem dX1_amend_81 : decode cX1_amend 81 = .ok (.ireturn, 1) := by decide +kernel
theorem dX1_arrive_0 : decode cX1_arrive 0 = .ok (.aload_n 0, 1) := by decide +kernel
theorem dX1_arrive_1 : decode cX1_arrive 1 = .ok (.iload_n 1, 1) := by decide +kernel
theorem dX1_arrive_2 : decode cX1_arrive 2 = .ok (.invokevirtual 75, 3) := by decide +kernel
theorem dX1_arrive_5 : decode cX1_arrive 5 = .ok (.astore_n 3, 1) := by decide +kernel
theorem dX1_arrive_6 : decode cX1_arrive 6 = .ok (.iload_n 2, 1) := by decide +kernel
theorem dX1_arrive_7 : decode cX1_arrive 7 = .ok (.invokestatic 67, 3) := by decide +kernel
theorem dX1_arrive_10 : decode cX1_arrive 10 = .ok (.aload_n 3, 1) := by decide +kernel
theorem dX1_arrive_11 : decode cX1_arrive 11 = .ok (.getfield 79, 3) := by decide +kernel
theorem dX1_arrive_14 : decode cX1_arrive 14 = .ok (.ifCond .eq 13, 3) := by decide +kernel
theorem dX1_arrive_17 : decode cX1_arrive 17 = .ok (.new 60, 3) := by decide +kernel
theorem dX1_arrive_20 : decode cX1_arrive 20 = .ok (.dup, 1) := by decide +kernel
theorem dX1_arrive_21 : decode cX1_arrive 21 = .ok (.ldc 82, 2) := by decide +kernel
theorem dX1_arrive_23 : decode cX1_arrive 23 = .ok (.invokespecial 64, 3) := by decide +kernel
theorem dX1_arrive_26 : decode cX1_arrive 26 = .ok (.athrow, 1) := by decide +kernel
theorem dX1_arrive_27 : decode cX1_arrive 27 = .ok (.aload_n 3, 1) := by decide +kernel
theorem dX1_arrive_28 : decode cX1_arrive 28 = .ok (.invokevirtual 92, 3) := by decide +kernel
theorem dX1_arrive_31 : decode cX1_arrive 31 = .ok (.ifCond .ne 13, 3) := by decide +kernel
theorem dX1_arrive_34 : decode cX1_arrive 34 = .ok (.new 60, 3) := by decide +kernel
theorem dX1_arrive_37 : decode cX1_arrive 37 = .ok (.dup, 1) := by decide +kernel
theorem dX1_arrive_38 : decode cX1_arrive 38 = .ok (.ldc 95, 2) := by decide +kernel
theorem dX1_arrive_40 : decode cX1_arrive 40 = .ok (.invokespecial 64, 3) := by decide +kernel
theorem dX1_arrive_43 : decode cX1_arrive 43 = .ok (.athrow, 1) := by decide +kernel
theorem dX1_arrive_44 : decode cX1_arrive 44 = .ok (.aload_n 0, 1) := by decide +kernel
theorem dX1_arrive_45 : decode cX1_arrive 45 = .ok (.dup, 1) := by decide +kernel
theorem dX1_arrive_46 : decode cX1_arrive 46 = .ok (.getfield 35, 3) := by decide +kernel
theorem dX1_arrive_49 : decode cX1_arrive 49 = .ok (.iconst 1, 1) := by decide +kernel
theorem dX1_arrive_50 : decode cX1_arrive 50 = .ok (.iadd, 1) := by decide +kernel
theorem dX1_arrive_51 : decode cX1_arrive 51 = .ok (.putfield 35, 3) := by decide +kernel
theorem dX1_arrive_54 : decode cX1_arrive 54 = .ok (.aload_n 3, 1) := by decide +kernel
theorem dX1_arrive_55 : decode cX1_arrive 55 = .ok (.iconst 1, 1) := by decide +kernel
theorem dX1_arrive_56 : decode cX1_arrive 56 = .ok (.putfield 79, 3) := by decide +kernel
theorem dX1_arrive_59 : decode cX1_arrive 59 = .ok (.aload_n 3, 1) := by decide +kernel
theorem dX1_arrive_60 : decode cX1_arrive 60 = .ok (.iload_n 2, 1) := by decide +kernel
theorem dX1_arrive_61 : decode cX1_arrive 61 = .ok (.aload_n 3, 1) := by decide +kernel
theorem dX1_arrive_62 : decode cX1_arrive 62 = .ok (.getfield 97, 3) := by decide +kernel
theorem dX1_arrive_65 : decode cX1_arrive 65 = .ok (.if_icmp .eq 7, 3) := by decide +kernel
theorem dX1_arrive_68 : decode cX1_arrive 68 = .ok (.iconst 1, 1) := by decide +kernel
theorem dX1_arrive_69 : decode cX1_arrive 69 = .ok (.goto 4, 3) := by decide +kernel
theorem dX1_arrive_72 : decode cX1_arrive 72 = .ok (.iconst 0, 1) := by decide +kernel
theorem dX1_arrive_73 : decode cX1_arrive 73 = .ok (.putfield 100, 3) := by decide +kernel
theorem dX1_arrive_76 : decode cX1_arrive 76 = .ok (.aload_n 3, 1) := by decide +kernel
theorem dX1_arrive_77 : decode cX1_arrive 77 = .ok (.aload_n 0, 1) := by decide +kernel
theorem dX1_arrive_78 : decode cX1_arrive 78 = .ok (.getfield 41, 3) := by decide +kernel
theorem dX1_arrive_81 : decode cX1_arrive 81 = .ok (.ifCond .eq 19, 3) := by decide +kernel
theorem dX1_arrive_84 : decode cX1_arrive 84 = .ok (.aload_n 0, 1) := by decide +kernel
theorem dX1_arrive_85 : decode cX1_arrive 85 = .ok (.getfield 35, 3) := by decide +kernel
theorem dX1_arrive_88 : decode cX1_arrive 88 = .ok (.aload_n 0, 1) := by decide +kernel
theorem dX1_arrive_89 : decode cX1_arrive 89 = .ok (.getfield 41, 3) := by decide +kernel
theorem dX1_arrive_92 : decode cX1_arrive 92 = .ok (.irem, 1) := by decide +kernel
theorem dX1_arrive_93 : decode cX1_arrive 93 = .ok (.ifCond .ne 7, 3) := by decide +kernel
theorem dX1_arrive_96 : decode cX1_arrive 96 = .ok (.iconst 1, 1) := by decide +kernel
theorem dX1_arrive_97 : decode cX1_arrive 97 = .ok (.goto 4, 3) := by decide +kernel
theorem dX1_arrive_100 : decode cX1_arrive 100 = .ok (.iconst 0, 1) := by decide +kernel
theorem dX1_arrive_101 : decode cX1_arrive 101 = .ok (.putfield 104, 3) := by decide +kernel
theorem dX1_arrive_104 : decode cX1_arrive 104 = .ok (.aload_n 0, 1) := by decide +kernel
theorem dX1_arrive_105 : decode cX1_arrive 105 = .ok (.aload_n 3, 1) := by decide +kernel
theorem dX1_arrive_106 : decode cX1_arrive 106 = .ok (.invokevirtual 107, 3) := by decide +kernel
theorem dX1_arrive_109 : decode cX1_arrive 109 = .ok (.ireturn, 1) := by decide +kernel
theorem dX1_risk_0 : decode cX1_risk 0 = .ok (.aload_n 0, 1) := by decide +kernel
theorem dX1_risk_1 : decode cX1_risk 1 = .ok (.iload_n 1, 1) := by decide +kernel
theorem dX1_risk_2 : decode cX1_risk 2 = .ok (.invokevirtual 75, 3) := by decide +kernel
theorem dX1_risk_5 : decode cX1_risk 5 = .ok (.astore_n 2, 1) := by decide +kernel
theorem dX1_risk_6 : decode cX1_risk 6 = .ok (.aload_n 2, 1) := by decide +kernel
theorem dX1_risk_7 : decode cX1_risk 7 = .ok (.getfield 79, 3) := by decide +kernel
theorem dX1_risk_10 : decode cX1_risk 10 = .ok (.ifCond .ne 13, 3) := by decide +kernel
theorem dX1_risk_13 : decode cX1_risk 13 = .ok (.new 60, 3) := by decide +kernel
theorem dX1_risk_16 : decode cX1_risk 16 = .ok (.dup, 1) := by decide +kernel
theorem dX1_risk_17 : decode cX1_risk 17 = .ok (.ldc 111, 2) := by decide +kernel
theorem dX1_risk_19 : decode cX1_risk 19 = .ok (.invokespecial 64, 3) := by decide +kernel
theorem dX1_risk_22 : decode cX1_risk 22 = .ok (.athrow, 1) := by decide +kernel
theorem dX1_risk_23 : decode cX1_risk 23 = .ok (.aload_n 0, 1) := by decide +kernel
theorem dX1_risk_24 : decode cX1_risk 24 = .ok (.aload_n 2, 1) := by decide +kernel
theorem dX1_risk_25 : decode cX1_risk 25 = .ok (.invokevirtual 113, 3) := by decide +kernel
theorem dX1_risk_28 : decode cX1_risk 28 = .ok (.ireturn, 1) := by decide +kernel
theorem dX1_mustSearch_0 : decode cX1_mustSearch 0 = .ok (.aload_n 0, 1) := by decide +kernel
theorem dX1_mustSearch_1 : decode cX1_mustSearch 1 = .ok (.aload_n 0, 1) := by decide +kernel
theorem dX1_mustSearch_2 : decode cX1_mustSearch 2 = .ok (.iload_n 1, 1) := by decide +kernel
theorem dX1_mustSearch_3 : decode cX1_mustSearch 3 = .ok (.invokevirtual 75, 3) := by decide +kernel
theorem dX1_mustSearch_6 : decode cX1_mustSearch 6 = .ok (.invokevirtual 107, 3) := by decide +kernel
theorem dX1_mustSearch_9 : decode cX1_mustSearch 9 = .ok (.ireturn, 1) := by decide +kernel
theorem dX1_search_0 : decode cX1_search 0 = .ok (.aload_n 0, 1) := by decide +kernel
theorem dX1_search_1 : decode cX1_search 1 = .ok (.iload_n 1, 1) := by decide +kernel
theorem dX1_search_2 : decode cX1_search 2 = .ok (.invokevirtual 75, 3) := by decide +kernel
theorem dX1_search_5 : decode cX1_search 5 = .ok (.astore 4, 2) := by decide +kernel
theorem dX1_search_7 : decode cX1_search 7 = .ok (.iload_n 2, 1) := by decide +kernel
theorem dX1_search_8 : decode cX1_search 8 = .ok (.invokestatic 44, 3) := by decide +kernel
theorem dX1_search_11 : decode cX1_search 11 = .ok (.iload_n 3, 1) := by decide +kernel
theorem dX1_search_12 : decode cX1_search 12 = .ok (.iconst 0, 1) := by decide +kernel
theorem dX1_search_13 : decode cX1_search 13 = .ok (.bipush 100, 2) := by decide +kernel
theorem dX1_search_15 : decode cX1_search 15 = .ok (.invokestatic 48, 3) := by decide +kernel
theorem dX1_search_18 : decode cX1_search 18 = .ok (.aload 4, 2) := by decide +kernel
theorem dX1_search_20 : decode cX1_search 20 = .ok (.getfield 79, 3) := by decide +kernel
theorem dX1_search_23 : decode cX1_search 23 = .ok (.iconst 1, 1) := by decide +kernel
theorem dX1_search_24 : decode cX1_search 24 = .ok (.if_icmp .eq 13, 3) := by decide +kernel
theorem dX1_search_27 : decode cX1_search 27 = .ok (.new 60, 3) := by decide +kernel
theorem dX1_search_30 : decode cX1_search 30 = .ok (.dup, 1) := by decide +kernel
theorem dX1_search_31 : decode cX1_search 31 = .ok (.ldc 117, 2) := by decide +kernel
theorem dX1_search_33 : decode cX1_search 33 = .ok (.invokespecial 64, 3) := by decide +kernel
theorem dX1_search_36 : decode cX1_search 36 = .ok (.athrow, 1) := by decide +kernel
theorem dX1_search_37 : decode cX1_search 37 = .ok (.aload 4, 2) := by decide +kernel
theorem dX1_search_39 : decode cX1_search 39 = .ok (.iload_n 2, 1) := by decide +kernel
theorem dX1_search_40 : decode cX1_search 40 = .ok (.iload_n 3, 1) := by decide +kernel
theorem dX1_search_41 : decode cX1_search 41 = .ok (.invokevirtual 119, 3) := by decide +kernel
theorem dX1_search_44 : decode cX1_search 44 = .ok (.aload 4, 2) := by decide +kernel
theorem dX1_search_46 : decode cX1_search 46 = .ok (.getfield 122, 3) := by decide +kernel
theorem dX1_search_49 : decode cX1_search 49 = .ok (.ireturn, 1) := by decide +kernel
theorem dX1_bond_0 : decode cX1_bond 0 = .ok (.aload_n 0, 1) := by decide +kernel
theorem dX1_bond_1 : decode cX1_bond 1 = .ok (.iload_n 1, 1) := by decide +kernel
theorem dX1_bond_2 : decode cX1_bond 2 = .ok (.invokevirtual 75, 3) := by decide +kernel
theorem dX1_bond_5 : decode cX1_bond 5 = .ok (.astore_n 3, 1) := by decide +kernel
theorem dX1_bond_6 : decode cX1_bond 6 = .ok (.iload_n 2, 1) := by decide +kernel
theorem dX1_bond_7 : decode cX1_bond 7 = .ok (.invokestatic 125, 3) := by decide +kernel
theorem dX1_bond_10 : decode cX1_bond 10 = .ok (.aload_n 3, 1) := by decide +kernel
theorem dX1_bond_11 : decode cX1_bond 11 = .ok (.getfield 79, 3) := by decide +kernel
theorem dX1_bond_14 : decode cX1_bond 14 = .ok (.iconst 1, 1) := by decide +kernel
theorem dX1_bond_15 : decode cX1_bond 15 = .ok (.if_icmp .eq 13, 3) := by decide +kernel
theorem dX1_bond_18 : decode cX1_bond 18 = .ok (.new 60, 3) := by decide +kernel
theorem dX1_bond_21 : decode cX1_bond 21 = .ok (.dup, 1) := by decide +kernel
theorem dX1_bond_22 : decode cX1_bond 22 = .ok (.ldc 117, 2) := by decide +kernel
theorem dX1_bond_24 : decode cX1_bond 24 = .ok (.invokespecial 64, 3) := by decide +kernel
theorem dX1_bond_27 : decode cX1_bond 27 = .ok (.athrow, 1) := by decide +kernel
theorem dX1_bond_28 : decode cX1_bond 28 = .ok (.aload_n 0, 1) := by decide +kernel
theorem dX1_bond_29 : decode cX1_bond 29 = .ok (.aload_n 3, 1) := by decide +kernel
theorem dX1_bond_30 : decode cX1_bond 30 = .ok (.invokevirtual 107, 3) := by decide +kernel
theorem dX1_bond_33 : decode cX1_bond 33 = .ok (.ifCond .eq 13, 3) := by decide +kernel
theorem dX1_bond_36 : decode cX1_bond 36 = .ok (.new 60, 3) := by decide +kernel
theorem dX1_bond_39 : decode cX1_bond 39 = .ok (.dup, 1) := by decide +kernel
theorem dX1_bond_40 : decode cX1_bond 40 = .ok (.ldc 128, 2) := by decide +kernel
theorem dX1_bond_42 : decode cX1_bond 42 = .ok (.invokespecial 64, 3) := by decide +kernel
theorem dX1_bond_45 : decode cX1_bond 45 = .ok (.athrow, 1) := by decide +kernel
theorem dX1_bond_46 : decode cX1_bond 46 = .ok (.aload_n 0, 1) := by decide +kernel
theorem dX1_bond_47 : decode cX1_bond 47 = .ok (.aload_n 3, 1) := by decide +kernel
theorem dX1_bond_48 : decode cX1_bond 48 = .ok (.invokevirtual 130, 3) := by decide +kernel
theorem dX1_bond_51 : decode cX1_bond 51 = .ok (.istore 4, 2) := by decide +kernel
theorem dX1_bond_53 : decode cX1_bond 53 = .ok (.aload_n 0, 1) := by decide +kernel
theorem dX1_bond_54 : decode cX1_bond 54 = .ok (.getfield 19, 3) := by decide +kernel
theorem dX1_bond_57 : decode cX1_bond 57 = .ok (.aload_n 3, 1) := by decide +kernel
theorem dX1_bond_58 : decode cX1_bond 58 = .ok (.getfield 133, 3) := by decide +kernel
theorem dX1_bond_61 : decode cX1_bond 61 = .ok (.iaload, 1) := by decide +kernel
theorem dX1_bond_62 : decode cX1_bond 62 = .ok (.iload 4, 2) := by decide +kernel
theorem dX1_bond_64 : decode cX1_bond 64 = .ok (.iadd, 1) := by decide +kernel
theorem dX1_bond_65 : decode cX1_bond 65 = .ok (.aload_n 0, 1) := by decide +kernel
theorem dX1_bond_66 : decode cX1_bond 66 = .ok (.getfield 16, 3) := by decide +kernel
theorem dX1_bond_69 : decode cX1_bond 69 = .ok (.aload_n 3, 1) := by decide +kernel
theorem dX1_bond_70 : decode cX1_bond 70 = .ok (.getfield 133, 3) := by decide +kernel
theorem dX1_bond_73 : decode cX1_bond 73 = .ok (.iaload, 1) := by decide +kernel
theorem dX1_bond_74 : decode cX1_bond 74 = .ok (.if_icmp .le 13, 3) := by decide +kernel
theorem dX1_bond_77 : decode cX1_bond 77 = .ok (.new 60, 3) := by decide +kernel
theorem dX1_bond_80 : decode cX1_bond 80 = .ok (.dup, 1) := by decide +kernel
theorem dX1_bond_81 : decode cX1_bond 81 = .ok (.ldc 136, 2) := by decide +kernel
theorem dX1_bond_83 : decode cX1_bond 83 = .ok (.invokespecial 64, 3) := by decide +kernel
theorem dX1_bond_86 : decode cX1_bond 86 = .ok (.athrow, 1) := by decide +kernel
theorem dX1_bond_87 : decode cX1_bond 87 = .ok (.aload_n 0, 1) := by decide +kernel
theorem dX1_bond_88 : decode cX1_bond 88 = .ok (.getfield 19, 3) := by decide +kernel
theorem dX1_bond_91 : decode cX1_bond 91 = .ok (.aload_n 3, 1) := by decide +kernel
theorem dX1_bond_92 : decode cX1_bond 92 = .ok (.getfield 133, 3) := by decide +kernel
theorem dX1_bond_95 : decode cX1_bond 95 = .ok (.dup2, 1) := by decide +kernel
theorem dX1_bond_96 : decode cX1_bond 96 = .ok (.iaload, 1) := by decide +kernel
theorem dX1_bond_97 : decode cX1_bond 97 = .ok (.iload 4, 2) := by decide +kernel
theorem dX1_bond_99 : decode cX1_bond 99 = .ok (.iadd, 1) := by decide +kernel
theorem dX1_bond_100 : decode cX1_bond 100 = .ok (.iastore, 1) := by decide +kernel
theorem dX1_bond_101 : decode cX1_bond 101 = .ok (.aload_n 3, 1) := by decide +kernel
theorem dX1_bond_102 : decode cX1_bond 102 = .ok (.iload_n 2, 1) := by decide +kernel
theorem dX1_bond_103 : decode cX1_bond 103 = .ok (.aload_n 0, 1) := by decide +kernel
theorem dX1_bond_104 : decode cX1_bond 104 = .ok (.getfield 9, 3) := by decide +kernel
theorem dX1_bond_107 : decode cX1_bond 107 = .ok (.invokevirtual 138, 3) := by decide +kernel
theorem dX1_bond_110 : decode cX1_bond 110 = .ok (.iload 4, 2) := by decide +kernel
theorem dX1_bond_112 : decode cX1_bond 112 = .ok (.ireturn, 1) := by decide +kernel
theorem dX1_move_0 : decode cX1_move 0 = .ok (.aload_n 0, 1) := by decide +kernel
theorem dX1_move_1 : decode cX1_move 1 = .ok (.iload_n 1, 1) := by decide +kernel
theorem dX1_move_2 : decode cX1_move 2 = .ok (.invokevirtual 75, 3) := by decide +kernel
theorem dX1_move_5 : decode cX1_move 5 = .ok (.astore 6, 2) := by decide +kernel
theorem dX1_move_7 : decode cX1_move 7 = .ok (.iload 4, 2) := by decide +kernel
theorem dX1_move_9 : decode cX1_move 9 = .ok (.invokestatic 125, 3) := by decide +kernel
theorem dX1_move_12 : decode cX1_move 12 = .ok (.iload_n 3, 1) := by decide +kernel
theorem dX1_move_13 : decode cX1_move 13 = .ok (.iload 4, 2) := by decide +kernel
theorem dX1_move_15 : decode cX1_move 15 = .ok (.if_icmp .ne 13, 3) := by decide +kernel
theorem dX1_move_18 : decode cX1_move 18 = .ok (.new 142, 3) := by decide +kernel
theorem dX1_move_21 : decode cX1_move 21 = .ok (.dup, 1) := by decide +kernel
theorem dX1_move_22 : decode cX1_move 22 = .ok (.ldc 144, 2) := by decide +kernel
theorem dX1_move_24 : decode cX1_move 24 = .ok (.invokespecial 146, 3) := by decide +kernel
theorem dX1_move_27 : decode cX1_move 27 = .ok (.athrow, 1) := by decide +kernel
theorem dX1_move_28 : decode cX1_move 28 = .ok (.aload 6, 2) := by decide +kernel
theorem dX1_move_30 : decode cX1_move 30 = .ok (.iload_n 2, 1) := by decide +kernel
theorem dX1_move_31 : decode cX1_move 31 = .ok (.iload_n 3, 1) := by decide +kernel
theorem dX1_move_32 : decode cX1_move 32 = .ok (.iload 5, 2) := by decide +kernel
theorem dX1_move_34 : decode cX1_move 34 = .ok (.invokestatic 147, 3) := by decide +kernel
theorem dX1_move_37 : decode cX1_move 37 = .ok (.iload_n 2, 1) := by decide +kernel
theorem dX1_move_38 : decode cX1_move 38 = .ok (.iload 4, 2) := by decide +kernel
theorem dX1_move_40 : decode cX1_move 40 = .ok (.invokestatic 151, 3) := by decide +kernel
theorem dX1_move_43 : decode cX1_move 43 = .ok (.istore 7, 2) := by decide +kernel
theorem dX1_move_45 : decode cX1_move 45 = .ok (.aload 6, 2) := by decide +kernel
theorem dX1_move_47 : decode cX1_move 47 = .ok (.getfield 155, 3) := by decide +kernel
theorem dX1_move_50 : decode cX1_move 50 = .ok (.iload_n 2, 1) := by decide +kernel
theorem dX1_move_51 : decode cX1_move 51 = .ok (.iload_n 3, 1) := by decide +kernel
theorem dX1_move_52 : decode cX1_move 52 = .ok (.invokestatic 151, 3) := by decide +kernel
theorem dX1_move_55 : decode cX1_move 55 = .ok (.dup2, 1) := by decide +kernel
theorem dX1_move_56 : decode cX1_move 56 = .ok (.iaload, 1) := by decide +kernel
theorem dX1_move_57 : decode cX1_move 57 = .ok (.iload 5, 2) := by decide +kernel
theorem dX1_move_59 : decode cX1_move 59 = .ok (.isub, 1) := by decide +kernel
theorem dX1_move_60 : decode cX1_move 60 = .ok (.iastore, 1) := by decide +kernel
theorem dX1_move_61 : decode cX1_move 61 = .ok (.aload 6, 2) := by decide +kernel
theorem dX1_move_63 : decode cX1_move 63 = .ok (.getfield 155, 3) := by decide +kernel
theorem dX1_move_66 : decode cX1_move 66 = .ok (.iload 7, 2) := by decide +kernel
theorem dX1_move_68 : decode cX1_move 68 = .ok (.dup2, 1) := by decide +kernel
theorem dX1_move_69 : decode cX1_move 69 = .ok (.iaload, 1) := by decide +kernel
theorem dX1_move_70 : decode cX1_move 70 = .ok (.iload 5, 2) := by decide +kernel
theorem dX1_move_72 : decode cX1_move 72 = .ok (.iadd, 1) := by decide +kernel
theorem dX1_move_73 : decode cX1_move 73 = .ok (.iastore, 1) := by decide +kernel
theorem dX1_move_74 : decode cX1_move 74 = .ok (.aload 6, 2) := by decide +kernel
theorem dX1_move_76 : decode cX1_move 76 = .ok (.getfield 155, 3) := by decide +kernel
theorem dX1_move_79 : decode cX1_move 79 = .ok (.iload 7, 2) := by decide +kernel
theorem dX1_move_81 : decode cX1_move 81 = .ok (.iaload, 1) := by decide +kernel
theorem dX1_move_82 : decode cX1_move 82 = .ok (.ireturn, 1) := by decide +kernel
theorem dX1_free_0 : decode cX1_free 0 = .ok (.aload_n 0, 1) := by decide +kernel
theorem dX1_free_1 : decode cX1_free 1 = .ok (.iload_n 1, 1) := by decide +kernel
theorem dX1_free_2 : decode cX1_free 2 = .ok (.invokevirtual 75, 3) := by decide +kernel
theorem dX1_free_5 : decode cX1_free 5 = .ok (.astore 5, 2) := by decide +kernel
theorem dX1_free_7 : decode cX1_free 7 = .ok (.aload 5, 2) := by decide +kernel
theorem dX1_free_9 : decode cX1_free 9 = .ok (.iload_n 2, 1) := by decide +kernel
theorem dX1_free_10 : decode cX1_free 10 = .ok (.iload_n 3, 1) := by decide +kernel
theorem dX1_free_11 : decode cX1_free 11 = .ok (.iload 4, 2) := by decide +kernel
theorem dX1_free_13 : decode cX1_free 13 = .ok (.invokestatic 147, 3) := by decide +kernel
theorem dX1_free_16 : decode cX1_free 16 = .ok (.aload_n 0, 1) := by decide +kernel
theorem dX1_free_17 : decode cX1_free 17 = .ok (.aload 5, 2) := by decide +kernel
theorem dX1_free_19 : decode cX1_free 19 = .ok (.iload_n 2, 1) := by decide +kernel
theorem dX1_free_20 : decode cX1_free 20 = .ok (.iload_n 3, 1) := by decide +kernel
theorem dX1_free_21 : decode cX1_free 21 = .ok (.iload 4, 2) := by decide +kernel
theorem dX1_free_23 : decode cX1_free 23 = .ok (.invokevirtual 158, 3) := by decide +kernel
theorem dX1_free_26 : decode cX1_free 26 = .ok (.istore 6, 2) := by decide +kernel
theorem dX1_free_28 : decode cX1_free 28 = .ok (.aload_n 0, 1) := by decide +kernel
theorem dX1_free_29 : decode cX1_free 29 = .ok (.getfield 22, 3) := by decide +kernel
theorem dX1_free_32 : decode cX1_free 32 = .ok (.aload 5, 2) := by decide +kernel
theorem dX1_free_34 : decode cX1_free 34 = .ok (.getfield 133, 3) := by decide +kernel
theorem dX1_free_37 : decode cX1_free 37 = .ok (.dup2, 1) := by decide +kernel
theorem dX1_free_38 : decode cX1_free 38 = .ok (.iaload, 1) := by decide +kernel
theorem dX1_free_39 : decode cX1_free 39 = .ok (.iload 6, 2) := by decide +kernel
theorem dX1_free_41 : decode cX1_free 41 = .ok (.iadd, 1) := by decide +kernel
theorem dX1_free_42 : decode cX1_free 42 = .ok (.iastore, 1) := by decide +kernel
theorem dX1_free_43 : decode cX1_free 43 = .ok (.iload 6, 2) := by decide +kernel
theorem dX1_free_45 : decode cX1_free 45 = .ok (.ireturn, 1) := by decide +kernel
theorem dX1_sendBack_0 : decode cX1_sendBack 0 = .ok (.aload_n 0, 1) := by decide +kernel
theorem dX1_sendBack_1 : decode cX1_sendBack 1 = .ok (.iload_n 1, 1) := by decide +kernel
theorem dX1_sendBack_2 : decode cX1_sendBack 2 = .ok (.invokevirtual 75, 3) := by decide +kernel
theorem dX1_sendBack_5 : decode cX1_sendBack 5 = .ok (.astore 5, 2) := by decide +kernel
theorem dX1_sendBack_7 : decode cX1_sendBack 7 = .ok (.aload 5, 2) := by decide +kernel
theorem dX1_sendBack_9 : decode cX1_sendBack 9 = .ok (.iload_n 2, 1) := by decide +kernel
theorem dX1_sendBack_10 : decode cX1_sendBack 10 = .ok (.iload_n 3, 1) := by decide +kernel
theorem dX1_sendBack_11 : decode cX1_sendBack 11 = .ok (.iload 4, 2) := by decide +kernel
theorem dX1_sendBack_13 : decode cX1_sendBack 13 = .ok (.invokestatic 147, 3) := by decide +kernel
theorem dX1_sendBack_16 : decode cX1_sendBack 16 = .ok (.aload_n 0, 1) := by decide +kernel
theorem dX1_sendBack_17 : decode cX1_sendBack 17 = .ok (.aload 5, 2) := by decide +kernel
theorem dX1_sendBack_19 : decode cX1_sendBack 19 = .ok (.iload_n 2, 1) := by decide +kernel
theorem dX1_sendBack_20 : decode cX1_sendBack 20 = .ok (.iload_n 3, 1) := by decide +kernel
theorem dX1_sendBack_21 : decode cX1_sendBack 21 = .ok (.iload 4, 2) := by decide +kernel
theorem dX1_sendBack_23 : decode cX1_sendBack 23 = .ok (.invokevirtual 158, 3) := by decide +kernel
theorem dX1_sendBack_26 : decode cX1_sendBack 26 = .ok (.ireturn, 1) := by decide +kernel
theorem dX1_state_0 : decode cX1_state 0 = .ok (.aload_n 0, 1) := by decide +kernel
theorem dX1_state_1 : decode cX1_state 1 = .ok (.iload_n 1, 1) := by decide +kernel
theorem dX1_state_2 : decode cX1_state 2 = .ok (.invokevirtual 75, 3) := by decide +kernel
theorem dX1_state_5 : decode cX1_state 5 = .ok (.getfield 79, 3) := by decide +kernel
theorem dX1_state_8 : decode cX1_state 8 = .ok (.ireturn, 1) := by decide +kernel
theorem dX1_manifest_0 : decode cX1_manifest 0 = .ok (.aload_n 0, 1) := by decide +kernel
theorem dX1_manifest_1 : decode cX1_manifest 1 = .ok (.iload_n 1, 1) := by decide +kernel
theorem dX1_manifest_2 : decode cX1_manifest 2 = .ok (.invokevirtual 75, 3) := by decide +kernel
theorem dX1_manifest_5 : decode cX1_manifest 5 = .ok (.astore_n 3, 1) := by decide +kernel
theorem dX1_manifest_6 : decode cX1_manifest 6 = .ok (.iload_n 2, 1) := by decide +kernel
theorem dX1_manifest_7 : decode cX1_manifest 7 = .ok (.invokestatic 44, 3) := by decide +kernel
theorem dX1_manifest_10 : decode cX1_manifest 10 = .ok (.aload_n 3, 1) := by decide +kernel
theorem dX1_manifest_11 : decode cX1_manifest 11 = .ok (.getfield 84, 3) := by decide +kernel
theorem dX1_manifest_14 : decode cX1_manifest 14 = .ok (.iload_n 2, 1) := by decide +kernel
theorem dX1_manifest_15 : decode cX1_manifest 15 = .ok (.iaload, 1) := by decide +kernel
theorem dX1_manifest_16 : decode cX1_manifest 16 = .ok (.ireturn, 1) := by decide +kernel
theorem dX1_stored_0 : decode cX1_stored 0 = .ok (.iload_n 1, 1) := by decide +kernel
theorem dX1_stored_1 : decode cX1_stored 1 = .ok (.invokestatic 44, 3) := by decide +kernel
theorem dX1_stored_4 : decode cX1_stored 4 = .ok (.iload_n 2, 1) := by decide +kernel
theorem dX1_stored_5 : decode cX1_stored 5 = .ok (.invokestatic 125, 3) := by decide +kernel
theorem dX1_stored_8 : decode cX1_stored 8 = .ok (.iconst 0, 1) := by decide +kernel
theorem dX1_stored_9 : decode cX1_stored 9 = .ok (.istore_n 3, 1) := by decide +kernel
theorem dX1_stored_10 : decode cX1_stored 10 = .ok (.aload_n 0, 1) := by decide +kernel
theorem dX1_stored_11 : decode cX1_stored 11 = .ok (.getfield 27, 3) := by decide +kernel
theorem dX1_stored_14 : decode cX1_stored 14 = .ok (.astore 4, 2) := by decide +kernel
theorem dX1_stored_16 : decode cX1_stored 16 = .ok (.aload 4, 2) := by decide +kernel
theorem dX1_stored_18 : decode cX1_stored 18 = .ok (.arraylength, 1) := by decide +kernel
theorem dX1_stored_19 : decode cX1_stored 19 = .ok (.istore 5, 2) := by decide +kernel
theorem dX1_stored_21 : decode cX1_stored 21 = .ok (.iconst 0, 1) := by decide +kernel
theorem dX1_stored_22 : decode cX1_stored 22 = .ok (.istore 6, 2) := by decide +kernel
theorem dX1_stored_24 : decode cX1_stored 24 = .ok (.iload 6, 2) := by decide +kernel
theorem dX1_stored_26 : decode cX1_stored 26 = .ok (.iload 5, 2) := by decide +kernel
theorem dX1_stored_28 : decode cX1_stored 28 = .ok (.if_icmp .ge 35, 3) := by decide +kernel
theorem dX1_stored_31 : decode cX1_stored 31 = .ok (.aload 4, 2) := by decide +kernel
theorem dX1_stored_33 : decode cX1_stored 33 = .ok (.iload 6, 2) := by decide +kernel
theorem dX1_stored_35 : decode cX1_stored 35 = .ok (.aaload, 1) := by decide +kernel
theorem dX1_stored_36 : decode cX1_stored 36 = .ok (.astore 7, 2) := by decide +kernel
theorem dX1_stored_38 : decode cX1_stored 38 = .ok (.aload 7, 2) := by decide +kernel
theorem dX1_stored_40 : decode cX1_stored 40 = .ok (.ifnull 17, 3) := by decide +kernel
theorem dX1_stored_43 : decode cX1_stored 43 = .ok (.iload_n 3, 1) := by decide +kernel
theorem dX1_stored_44 : decode cX1_stored 44 = .ok (.aload 7, 2) := by decide +kernel
theorem dX1_stored_46 : decode cX1_stored 46 = .ok (.getfield 155, 3) := by decide +kernel
theorem dX1_stored_49 : decode cX1_stored 49 = .ok (.iload_n 1, 1) := by decide +kernel
theorem dX1_stored_50 : decode cX1_stored 50 = .ok (.iload_n 2, 1) := by decide +kernel
theorem dX1_stored_51 : decode cX1_stored 51 = .ok (.invokestatic 151, 3) := by decide +kernel
theorem dX1_stored_54 : decode cX1_stored 54 = .ok (.iaload, 1) := by decide +kernel
theorem dX1_stored_55 : decode cX1_stored 55 = .ok (.iadd, 1) := by decide +kernel
theorem dX1_stored_56 : decode cX1_stored 56 = .ok (.istore_n 3, 1) := by decide +kernel
theorem dX1_stored_57 : decode cX1_stored 57 = .ok (.iinc 6 1, 3) := by decide +kernel
theorem dX1_stored_60 : decode cX1_stored 60 = .ok (.goto (-36), 3) := by decide +kernel
theorem dX1_stored_63 : decode cX1_stored 63 = .ok (.iload_n 3, 1) := by decide +kernel
theorem dX1_stored_64 : decode cX1_stored 64 = .ok (.ireturn, 1) := by decide +kernel
theorem dX1_held_0 : decode cX1_held 0 = .ok (.iload_n 1, 1) := by decide +kernel
theorem dX1_held_1 : decode cX1_held 1 = .ok (.invokestatic 56, 3) := by decide +kernel
theorem dX1_held_4 : decode cX1_held 4 = .ok (.aload_n 0, 1) := by decide +kernel
theorem dX1_held_5 : decode cX1_held 5 = .ok (.getfield 19, 3) := by decide +kernel
theorem dX1_held_8 : decode cX1_held 8 = .ok (.iload_n 1, 1) := by decide +kernel
theorem dX1_held_9 : decode cX1_held 9 = .ok (.iaload, 1) := by decide +kernel
theorem dX1_held_10 : decode cX1_held 10 = .ok (.ireturn, 1) := by decide +kernel
theorem dX1_paid_0 : decode cX1_paid 0 = .ok (.iload_n 1, 1) := by decide +kernel
theorem dX1_paid_1 : decode cX1_paid 1 = .ok (.invokestatic 56, 3) := by decide +kernel
theorem dX1_paid_4 : decode cX1_paid 4 = .ok (.aload_n 0, 1) := by decide +kernel
theorem dX1_paid_5 : decode cX1_paid 5 = .ok (.getfield 22, 3) := by decide +kernel
theorem dX1_paid_8 : decode cX1_paid 8 = .ok (.iload_n 1, 1) := by decide +kernel
theorem dX1_paid_9 : decode cX1_paid 9 = .ok (.iaload, 1) := by decide +kernel
theorem dX1_paid_10 : decode cX1_paid 10 = .ok (.ireturn, 1) := by decide +kernel
theorem dX1_findConsignment_0 : decode cX1_findConsignment 0 = .ok (.iload_n 1, 1) := by decide +kernel
theorem dX1_findConsignment_1 : decode cX1_findConsignment 1 = .ok (.ifCond .lt 21, 3) := by decide +kernel
theorem dX1_findConsignment_4 : decode cX1_findConsignment 4 = .ok (.iload_n 1, 1) := by decide +kernel
theorem dX1_findConsignment_5 : decode cX1_findConsignment 5 = .ok (.aload_n 0, 1) := by decide +kernel
theorem dX1_findConsignment_6 : decode cX1_findConsignment 6 = .ok (.getfield 27, 3) := by decide +kernel
theorem dX1_findConsignment_9 : decode cX1_findConsignment 9 = .ok (.arraylength, 1) := by decide +kernel
theorem dX1_findConsignment_10 : decode cX1_findConsignment 10 = .ok (.if_icmp .ge 12, 3) := by decide +kernel
theorem dX1_findConsignment_13 : decode cX1_findConsignment 13 = .ok (.aload_n 0, 1) := by decide +kernel
theorem dX1_findConsignment_14 : decode cX1_findConsignment 14 = .ok (.getfield 27, 3) := by decide +kernel
theorem dX1_findConsignment_17 : decode cX1_findConsignment 17 = .ok (.iload_n 1, 1) := by decide +kernel
theorem dX1_findConsignment_18 : decode cX1_findConsignment 18 = .ok (.aaload, 1) := by decide +kernel
theorem dX1_findConsignment_19 : decode cX1_findConsignment 19 = .ok (.goto 4, 3) := by decide +kernel
theorem dX1_findConsignment_22 : decode cX1_findConsignment 22 = .ok (.aconst_null, 1) := by decide +kernel
theorem dX1_findConsignment_23 : decode cX1_findConsignment 23 = .ok (.astore_n 2, 1) := by decide +kernel
theorem dX1_findConsignment_24 : decode cX1_findConsignment 24 = .ok (.aload_n 2, 1) := by decide +kernel
theorem dX1_findConsignment_25 : decode cX1_findConsignment 25 = .ok (.ifnonnull 13, 3) := by decide +kernel
theorem dX1_findConsignment_28 : decode cX1_findConsignment 28 = .ok (.new 162, 3) := by decide +kernel
theorem dX1_findConsignment_31 : decode cX1_findConsignment 31 = .ok (.dup, 1) := by decide +kernel
theorem dX1_findConsignment_32 : decode cX1_findConsignment 32 = .ok (.ldc 164, 2) := by decide +kernel
theorem dX1_findConsignment_34 : decode cX1_findConsignment 34 = .ok (.invokespecial 166, 3) := by decide +kernel
theorem dX1_findConsignment_37 : decode cX1_findConsignment 37 = .ok (.athrow, 1) := by decide +kernel
theorem dX1_findConsignment_38 : decode cX1_findConsignment 38 = .ok (.aload_n 2, 1) := by decide +kernel
theorem dX1_findConsignment_39 : decode cX1_findConsignment 39 = .ok (.areturn, 1) := by decide +kernel
theorem dX1_checkRange_0 : decode cX1_checkRange 0 = .ok (.iload_n 0, 1) := by decide +kernel
theorem dX1_checkRange_1 : decode cX1_checkRange 1 = .ok (.iload_n 1, 1) := by decide +kernel
theorem dX1_checkRange_2 : decode cX1_checkRange 2 = .ok (.if_icmp .lt 8, 3) := by decide +kernel
theorem dX1_checkRange_5 : decode cX1_checkRange 5 = .ok (.iload_n 0, 1) := by decide +kernel
theorem dX1_checkRange_6 : decode cX1_checkRange 6 = .ok (.iload_n 2, 1) := by decide +kernel
theorem dX1_checkRange_7 : decode cX1_checkRange 7 = .ok (.if_icmp .le 13, 3) := by decide +kernel
theorem dX1_checkRange_10 : decode cX1_checkRange 10 = .ok (.new 142, 3) := by decide +kernel
theorem dX1_checkRange_13 : decode cX1_checkRange 13 = .ok (.dup, 1) := by decide +kernel
theorem dX1_checkRange_14 : decode cX1_checkRange 14 = .ok (.ldc 167, 2) := by decide +kernel
theorem dX1_checkRange_16 : decode cX1_checkRange 16 = .ok (.invokespecial 146, 3) := by decide +kernel
theorem dX1_checkRange_19 : decode cX1_checkRange 19 = .ok (.athrow, 1) := by decide +kernel
theorem dX1_checkRange_20 : decode cX1_checkRange 20 = .ok (.return_, 1) := by decide +kernel
theorem dX1_checkSort_0 : decode cX1_checkSort 0 = .ok (.iload_n 0, 1) := by decide +kernel
theorem dX1_checkSort_1 : decode cX1_checkSort 1 = .ok (.iconst 0, 1) := by decide +kernel
theorem dX1_checkSort_2 : decode cX1_checkSort 2 = .ok (.iconst 5, 1) := by decide +kernel
theorem dX1_checkSort_3 : decode cX1_checkSort 3 = .ok (.invokestatic 48, 3) := by decide +kernel
theorem dX1_checkSort_6 : decode cX1_checkSort 6 = .ok (.return_, 1) := by decide +kernel
theorem dX1_checkStore_0 : decode cX1_checkStore 0 = .ok (.iload_n 0, 1) := by decide +kernel
theorem dX1_checkStore_1 : decode cX1_checkStore 1 = .ok (.iconst 0, 1) := by decide +kernel
theorem dX1_checkStore_2 : decode cX1_checkStore 2 = .ok (.iconst 2, 1) := by decide +kernel
theorem dX1_checkStore_3 : decode cX1_checkStore 3 = .ok (.invokestatic 48, 3) := by decide +kernel
theorem dX1_checkStore_6 : decode cX1_checkStore 6 = .ok (.return_, 1) := by decide +kernel
theorem dX1_checkTrader_0 : decode cX1_checkTrader 0 = .ok (.iload_n 0, 1) := by decide +kernel
theorem dX1_checkTrader_1 : decode cX1_checkTrader 1 = .ok (.iconst 0, 1) := by decide +kernel
theorem dX1_checkTrader_2 : decode cX1_checkTrader 2 = .ok (.iconst 3, 1) := by decide +kernel
theorem dX1_checkTrader_3 : decode cX1_checkTrader 3 = .ok (.invokestatic 48, 3) := by decide +kernel
theorem dX1_checkTrader_6 : decode cX1_checkTrader 6 = .ok (.return_, 1) := by decide +kernel
theorem dX1_checkSeal_0 : decode cX1_checkSeal 0 = .ok (.iload_n 0, 1) := by decide +kernel
theorem dX1_checkSeal_1 : decode cX1_checkSeal 1 = .ok (.iconst 0, 1) := by decide +kernel
theorem dX1_checkSeal_2 : decode cX1_checkSeal 2 = .ok (.sipush 999, 3) := by decide +kernel
theorem dX1_checkSeal_5 : decode cX1_checkSeal 5 = .ok (.invokestatic 48, 3) := by decide +kernel
theorem dX1_checkSeal_8 : decode cX1_checkSeal 8 = .ok (.return_, 1) := by decide +kernel
theorem dX1_checkTaking_0 : decode cX1_checkTaking 0 = .ok (.iload_n 1, 1) := by decide +kernel
theorem dX1_checkTaking_1 : decode cX1_checkTaking 1 = .ok (.invokestatic 44, 3) := by decide +kernel
theorem dX1_checkTaking_4 : decode cX1_checkTaking 4 = .ok (.iload_n 2, 1) := by decide +kernel
theorem dX1_checkTaking_5 : decode cX1_checkTaking 5 = .ok (.invokestatic 125, 3) := by decide +kernel
theorem dX1_checkTaking_8 : decode cX1_checkTaking 8 = .ok (.iload_n 3, 1) := by decide +kernel
theorem dX1_checkTaking_9 : decode cX1_checkTaking 9 = .ok (.iconst 1, 1) := by decide +kernel
theorem dX1_checkTaking_10 : decode cX1_checkTaking 10 = .ok (.bipush 100, 2) := by decide +kernel
theorem dX1_checkTaking_12 : decode cX1_checkTaking 12 = .ok (.invokestatic 48, 3) := by decide +kernel
theorem dX1_checkTaking_15 : decode cX1_checkTaking 15 = .ok (.aload_n 0, 1) := by decide +kernel
theorem dX1_checkTaking_16 : decode cX1_checkTaking 16 = .ok (.getfield 155, 3) := by decide +kernel
theorem dX1_checkTaking_19 : decode cX1_checkTaking 19 = .ok (.iload_n 1, 1) := by decide +kernel
theorem dX1_checkTaking_20 : decode cX1_checkTaking 20 = .ok (.iload_n 2, 1) := by decide +kernel
theorem dX1_checkTaking_21 : decode cX1_checkTaking 21 = .ok (.invokestatic 151, 3) := by decide +kernel
theorem dX1_checkTaking_24 : decode cX1_checkTaking 24 = .ok (.iaload, 1) := by decide +kernel
theorem dX1_checkTaking_25 : decode cX1_checkTaking 25 = .ok (.iload_n 3, 1) := by decide +kernel
theorem dX1_checkTaking_26 : decode cX1_checkTaking 26 = .ok (.if_icmp .ge 13, 3) := by decide +kernel
theorem dX1_checkTaking_29 : decode cX1_checkTaking 29 = .ok (.new 60, 3) := by decide +kernel
theorem dX1_checkTaking_32 : decode cX1_checkTaking 32 = .ok (.dup, 1) := by decide +kernel
theorem dX1_checkTaking_33 : decode cX1_checkTaking 33 = .ok (.ldc 169, 2) := by decide +kernel
theorem dX1_checkTaking_35 : decode cX1_checkTaking 35 = .ok (.invokespecial 64, 3) := by decide +kernel
theorem dX1_checkTaking_38 : decode cX1_checkTaking 38 = .ok (.athrow, 1) := by decide +kernel
theorem dX1_checkTaking_39 : decode cX1_checkTaking 39 = .ok (.return_, 1) := by decide +kernel
theorem dX1_placeOf_0 : decode cX1_placeOf 0 = .ok (.iload_n 0, 1) := by decide +kernel
theorem dX1_placeOf_1 : decode cX1_placeOf 1 = .ok (.iconst 3, 1) := by decide +kernel
theorem dX1_placeOf_2 : decode cX1_placeOf 2 = .ok (.imul, 1) := by decide +kernel
theorem dX1_placeOf_3 : decode cX1_placeOf 3 = .ok (.iload_n 1, 1) := by decide +kernel
theorem dX1_placeOf_4 : decode cX1_placeOf 4 = .ok (.iadd, 1) := by decide +kernel
theorem dX1_placeOf_5 : decode cX1_placeOf 5 = .ok (.ireturn, 1) := by decide +kernel
theorem dX1_riskOf_0 : decode cX1_riskOf 0 = .ok (.iconst 0, 1) := by decide +kernel
theorem dX1_riskOf_1 : decode cX1_riskOf 1 = .ok (.istore_n 2, 1) := by decide +kernel
theorem dX1_riskOf_2 : decode cX1_riskOf 2 = .ok (.iconst 0, 1) := by decide +kernel
theorem dX1_riskOf_3 : decode cX1_riskOf 3 = .ok (.istore_n 3, 1) := by decide +kernel
theorem dX1_riskOf_4 : decode cX1_riskOf 4 = .ok (.iload_n 3, 1) := by decide +kernel
theorem dX1_riskOf_5 : decode cX1_riskOf 5 = .ok (.bipush 6, 2) := by decide +kernel
theorem dX1_riskOf_7 : decode cX1_riskOf 7 = .ok (.if_icmp .ge 27, 3) := by decide +kernel
theorem dX1_riskOf_10 : decode cX1_riskOf 10 = .ok (.aload_n 1, 1) := by decide +kernel
theorem dX1_riskOf_11 : decode cX1_riskOf 11 = .ok (.getfield 84, 3) := by decide +kernel
theorem dX1_riskOf_14 : decode cX1_riskOf 14 = .ok (.iload_n 3, 1) := by decide +kernel
theorem dX1_riskOf_15 : decode cX1_riskOf 15 = .ok (.iaload, 1) := by decide +kernel
theorem dX1_riskOf_16 : decode cX1_riskOf 16 = .ok (.ifCond .le 12, 3) := by decide +kernel
theorem dX1_riskOf_19 : decode cX1_riskOf 19 = .ok (.iload_n 2, 1) := by decide +kernel
theorem dX1_riskOf_20 : decode cX1_riskOf 20 = .ok (.aload_n 0, 1) := by decide +kernel
theorem dX1_riskOf_21 : decode cX1_riskOf 21 = .ok (.getfield 13, 3) := by decide +kernel
theorem dX1_riskOf_24 : decode cX1_riskOf 24 = .ok (.iload_n 3, 1) := by decide +kernel
theorem dX1_riskOf_25 : decode cX1_riskOf 25 = .ok (.iaload, 1) := by decide +kernel
theorem dX1_riskOf_26 : decode cX1_riskOf 26 = .ok (.iadd, 1) := by decide +kernel
theorem dX1_riskOf_27 : decode cX1_riskOf 27 = .ok (.istore_n 2, 1) := by decide +kernel
theorem dX1_riskOf_28 : decode cX1_riskOf 28 = .ok (.iinc 3 1, 3) := by decide +kernel
theorem dX1_riskOf_31 : decode cX1_riskOf 31 = .ok (.goto (-27), 3) := by decide +kernel
theorem dX1_riskOf_34 : decode cX1_riskOf 34 = .ok (.aload_n 1, 1) := by decide +kernel
theorem dX1_riskOf_35 : decode cX1_riskOf 35 = .ok (.getfield 89, 3) := by decide +kernel
theorem dX1_riskOf_38 : decode cX1_riskOf 38 = .ok (.iconst 1, 1) := by decide +kernel
theorem dX1_riskOf_39 : decode cX1_riskOf 39 = .ok (.if_icmp .le 14, 3) := by decide +kernel
theorem dX1_riskOf_42 : decode cX1_riskOf 42 = .ok (.iload_n 2, 1) := by decide +kernel
theorem dX1_riskOf_43 : decode cX1_riskOf 43 = .ok (.iconst 2, 1) := by decide +kernel
theorem dX1_riskOf_44 : decode cX1_riskOf 44 = .ok (.aload_n 1, 1) := by decide +kernel
theorem dX1_riskOf_45 : decode cX1_riskOf 45 = .ok (.getfield 89, 3) := by decide +kernel
theorem dX1_riskOf_48 : decode cX1_riskOf 48 = .ok (.iconst 1, 1) := by decide +kernel
theorem dX1_riskOf_49 : decode cX1_riskOf 49 = .ok (.isub, 1) := by decide +kernel
theorem dX1_riskOf_50 : decode cX1_riskOf 50 = .ok (.imul, 1) := by decide +kernel
theorem dX1_riskOf_51 : decode cX1_riskOf 51 = .ok (.iadd, 1) := by decide +kernel
theorem dX1_riskOf_52 : decode cX1_riskOf 52 = .ok (.istore_n 2, 1) := by decide +kernel
theorem dX1_riskOf_53 : decode cX1_riskOf 53 = .ok (.aload_n 1, 1) := by decide +kernel
theorem dX1_riskOf_54 : decode cX1_riskOf 54 = .ok (.getfield 100, 3) := by decide +kernel
theorem dX1_riskOf_57 : decode cX1_riskOf 57 = .ok (.ifCond .eq 6, 3) := by decide +kernel
theorem dX1_riskOf_60 : decode cX1_riskOf 60 = .ok (.iinc 2 30, 3) := by decide +kernel
theorem dX1_riskOf_63 : decode cX1_riskOf 63 = .ok (.iload_n 2, 1) := by decide +kernel
theorem dX1_riskOf_64 : decode cX1_riskOf 64 = .ok (.ireturn, 1) := by decide +kernel
theorem dX1_hasToBeSearched_0 : decode cX1_hasToBeSearched 0 = .ok (.aload_n 1, 1) := by decide +kernel
theorem dX1_hasToBeSearched_1 : decode cX1_hasToBeSearched 1 = .ok (.getfield 79, 3) := by decide +kernel
theorem dX1_hasToBeSearched_4 : decode cX1_hasToBeSearched 4 = .ok (.iconst 1, 1) := by decide +kernel
theorem dX1_hasToBeSearched_5 : decode cX1_hasToBeSearched 5 = .ok (.if_icmp .ne 33, 3) := by decide +kernel
theorem dX1_hasToBeSearched_8 : decode cX1_hasToBeSearched 8 = .ok (.aload_n 1, 1) := by decide +kernel
theorem dX1_hasToBeSearched_9 : decode cX1_hasToBeSearched 9 = .ok (.invokevirtual 171, 3) := by decide +kernel
theorem dX1_hasToBeSearched_12 : decode cX1_hasToBeSearched 12 = .ok (.ifCond .ne 26, 3) := by decide +kernel
theorem dX1_hasToBeSearched_15 : decode cX1_hasToBeSearched 15 = .ok (.aload_n 1, 1) := by decide +kernel
theorem dX1_hasToBeSearched_16 : decode cX1_hasToBeSearched 16 = .ok (.getfield 104, 3) := by decide +kernel
theorem dX1_hasToBeSearched_19 : decode cX1_hasToBeSearched 19 = .ok (.ifCond .ne 15, 3) := by decide +kernel
theorem dX1_hasToBeSearched_22 : decode cX1_hasToBeSearched 22 = .ok (.aload_n 0, 1) := by decide +kernel
theorem dX1_hasToBeSearched_23 : decode cX1_hasToBeSearched 23 = .ok (.aload_n 1, 1) := by decide +kernel
theorem dX1_hasToBeSearched_24 : decode cX1_hasToBeSearched 24 = .ok (.invokevirtual 113, 3) := by decide +kernel
theorem dX1_hasToBeSearched_27 : decode cX1_hasToBeSearched 27 = .ok (.aload_n 0, 1) := by decide +kernel
theorem dX1_hasToBeSearched_28 : decode cX1_hasToBeSearched 28 = .ok (.getfield 38, 3) := by decide +kernel
theorem dX1_hasToBeSearched_31 : decode cX1_hasToBeSearched 31 = .ok (.if_icmp .lt 7, 3) := by decide +kernel
theorem dX1_hasToBeSearched_34 : decode cX1_hasToBeSearched 34 = .ok (.iconst 1, 1) := by decide +kernel
theorem dX1_hasToBeSearched_35 : decode cX1_hasToBeSearched 35 = .ok (.goto 4, 3) := by decide +kernel
theorem dX1_hasToBeSearched_38 : decode cX1_hasToBeSearched 38 = .ok (.iconst 0, 1) := by decide +kernel
theorem dX1_hasToBeSearched_39 : decode cX1_hasToBeSearched 39 = .ok (.ireturn, 1) := by decide +kernel
theorem dX1_countToSearch_0 : decode cX1_countToSearch 0 = .ok (.iconst 0, 1) := by decide +kernel
theorem dX1_countToSearch_1 : decode cX1_countToSearch 1 = .ok (.istore_n 1, 1) := by decide +kernel
theorem dX1_countToSearch_2 : decode cX1_countToSearch 2 = .ok (.aload_n 0, 1) := by decide +kernel
theorem dX1_countToSearch_3 : decode cX1_countToSearch 3 = .ok (.getfield 27, 3) := by decide +kernel
theorem dX1_countToSearch_6 : decode cX1_countToSearch 6 = .ok (.astore_n 2, 1) := by decide +kernel
theorem dX1_countToSearch_7 : decode cX1_countToSearch 7 = .ok (.aload_n 2, 1) := by decide +kernel
theorem dX1_countToSearch_8 : decode cX1_countToSearch 8 = .ok (.arraylength, 1) := by decide +kernel
theorem dX1_countToSearch_9 : decode cX1_countToSearch 9 = .ok (.istore_n 3, 1) := by decide +kernel
theorem dX1_countToSearch_10 : decode cX1_countToSearch 10 = .ok (.iconst 0, 1) := by decide +kernel
theorem dX1_countToSearch_11 : decode cX1_countToSearch 11 = .ok (.istore 4, 2) := by decide +kernel
theorem dX1_countToSearch_13 : decode cX1_countToSearch 13 = .ok (.iload 4, 2) := by decide +kernel
theorem dX1_countToSearch_15 : decode cX1_countToSearch 15 = .ok (.iload_n 3, 1) := by decide +kernel
theorem dX1_countToSearch_16 : decode cX1_countToSearch 16 = .ok (.if_icmp .ge 32, 3) := by decide +kernel
theorem dX1_countToSearch_19 : decode cX1_countToSearch 19 = .ok (.aload_n 2, 1) := by decide +kernel
theorem dX1_countToSearch_20 : decode cX1_countToSearch 20 = .ok (.iload 4, 2) := by decide +kernel
theorem dX1_countToSearch_22 : decode cX1_countToSearch 22 = .ok (.aaload, 1) := by decide +kernel
theorem dX1_countToSearch_23 : decode cX1_countToSearch 23 = .ok (.astore 5, 2) := by decide +kernel
theorem dX1_countToSearch_25 : decode cX1_countToSearch 25 = .ok (.aload 5, 2) := by decide +kernel
theorem dX1_countToSearch_27 : decode cX1_countToSearch 27 = .ok (.ifnull 15, 3) := by decide +kernel
theorem dX1_countToSearch_30 : decode cX1_countToSearch 30 = .ok (.aload_n 0, 1) := by decide +kernel
theorem dX1_countToSearch_31 : decode cX1_countToSearch 31 = .ok (.aload 5, 2) := by decide +kernel
theorem dX1_countToSearch_33 : decode cX1_countToSearch 33 = .ok (.invokevirtual 107, 3) := by decide +kernel
theorem dX1_countToSearch_36 : decode cX1_countToSearch 36 = .ok (.ifCond .eq 6, 3) := by decide +kernel
theorem dX1_countToSearch_39 : decode cX1_countToSearch 39 = .ok (.iinc 1 1, 3) := by decide +kernel
theorem dX1_countToSearch_42 : decode cX1_countToSearch 42 = .ok (.iinc 4 1, 3) := by decide +kernel
theorem dX1_countToSearch_45 : decode cX1_countToSearch 45 = .ok (.goto (-32), 3) := by decide +kernel
theorem dX1_countToSearch_48 : decode cX1_countToSearch 48 = .ok (.iload_n 1, 1) := by decide +kernel
theorem dX1_countToSearch_49 : decode cX1_countToSearch 49 = .ok (.ireturn, 1) := by decide +kernel
theorem dX1_dutyNow_0 : decode cX1_dutyNow 0 = .ok (.iconst 0, 1) := by decide +kernel
theorem dX1_dutyNow_1 : decode cX1_dutyNow 1 = .ok (.istore_n 2, 1) := by decide +kernel
theorem dX1_dutyNow_2 : decode cX1_dutyNow 2 = .ok (.iconst 0, 1) := by decide +kernel
theorem dX1_dutyNow_3 : decode cX1_dutyNow 3 = .ok (.istore_n 3, 1) := by decide +kernel
theorem dX1_dutyNow_4 : decode cX1_dutyNow 4 = .ok (.iload_n 3, 1) := by decide +kernel
theorem dX1_dutyNow_5 : decode cX1_dutyNow 5 = .ok (.bipush 6, 2) := by decide +kernel
theorem dX1_dutyNow_7 : decode cX1_dutyNow 7 = .ok (.if_icmp .ge 25, 3) := by decide +kernel
theorem dX1_dutyNow_10 : decode cX1_dutyNow 10 = .ok (.iload_n 2, 1) := by decide +kernel
theorem dX1_dutyNow_11 : decode cX1_dutyNow 11 = .ok (.aload_n 1, 1) := by decide +kernel
theorem dX1_dutyNow_12 : decode cX1_dutyNow 12 = .ok (.getfield 84, 3) := by decide +kernel
theorem dX1_dutyNow_15 : decode cX1_dutyNow 15 = .ok (.iload_n 3, 1) := by decide +kernel
theorem dX1_dutyNow_16 : decode cX1_dutyNow 16 = .ok (.iaload, 1) := by decide +kernel
theorem dX1_dutyNow_17 : decode cX1_dutyNow 17 = .ok (.aload_n 0, 1) := by decide +kernel
theorem dX1_dutyNow_18 : decode cX1_dutyNow 18 = .ok (.getfield 9, 3) := by decide +kernel
theorem dX1_dutyNow_21 : decode cX1_dutyNow 21 = .ok (.iload_n 3, 1) := by decide +kernel
theorem dX1_dutyNow_22 : decode cX1_dutyNow 22 = .ok (.iaload, 1) := by decide +kernel
theorem dX1_dutyNow_23 : decode cX1_dutyNow 23 = .ok (.imul, 1) := by decide +kernel
theorem dX1_dutyNow_24 : decode cX1_dutyNow 24 = .ok (.iadd, 1) := by decide +kernel
theorem dX1_dutyNow_25 : decode cX1_dutyNow 25 = .ok (.istore_n 2, 1) := by decide +kernel
theorem dX1_dutyNow_26 : decode cX1_dutyNow 26 = .ok (.iinc 3 1, 3) := by decide +kernel
theorem dX1_dutyNow_29 : decode cX1_dutyNow 29 = .ok (.goto (-25), 3) := by decide +kernel
theorem dX1_dutyNow_32 : decode cX1_dutyNow 32 = .ok (.iload_n 2, 1) := by decide +kernel
theorem dX1_dutyNow_33 : decode cX1_dutyNow 33 = .ok (.ireturn, 1) := by decide +kernel
theorem dX1_takeOut_0 : decode cX1_takeOut 0 = .ok (.iload 4, 2) := by decide +kernel
theorem dX1_takeOut_2 : decode cX1_takeOut 2 = .ok (.aload_n 1, 1) := by decide +kernel
theorem dX1_takeOut_3 : decode cX1_takeOut 3 = .ok (.getfield 175, 3) := by decide +kernel
theorem dX1_takeOut_6 : decode cX1_takeOut 6 = .ok (.iload_n 2, 1) := by decide +kernel
theorem dX1_takeOut_7 : decode cX1_takeOut 7 = .ok (.iaload, 1) := by decide +kernel
theorem dX1_takeOut_8 : decode cX1_takeOut 8 = .ok (.imul, 1) := by decide +kernel
theorem dX1_takeOut_9 : decode cX1_takeOut 9 = .ok (.istore 5, 2) := by decide +kernel
theorem dX1_takeOut_11 : decode cX1_takeOut 11 = .ok (.aload_n 0, 1) := by decide +kernel
theorem dX1_takeOut_12 : decode cX1_takeOut 12 = .ok (.getfield 19, 3) := by decide +kernel
theorem dX1_takeOut_15 : decode cX1_takeOut 15 = .ok (.aload_n 1, 1) := by decide +kernel
theorem dX1_takeOut_16 : decode cX1_takeOut 16 = .ok (.getfield 133, 3) := by decide +kernel
theorem dX1_takeOut_19 : decode cX1_takeOut 19 = .ok (.dup2, 1) := by decide +kernel
theorem dX1_takeOut_20 : decode cX1_takeOut 20 = .ok (.iaload, 1) := by decide +kernel
theorem dX1_takeOut_21 : decode cX1_takeOut 21 = .ok (.iload 5, 2) := by decide +kernel
theorem dX1_takeOut_23 : decode cX1_takeOut 23 = .ok (.isub, 1) := by decide +kernel
theorem dX1_takeOut_24 : decode cX1_takeOut 24 = .ok (.iastore, 1) := by decide +kernel
theorem dX1_takeOut_25 : decode cX1_takeOut 25 = .ok (.aload_n 1, 1) := by decide +kernel
theorem dX1_takeOut_26 : decode cX1_takeOut 26 = .ok (.getfield 155, 3) := by decide +kernel
theorem dX1_takeOut_29 : decode cX1_takeOut 29 = .ok (.iload_n 2, 1) := by decide +kernel
theorem dX1_takeOut_30 : decode cX1_takeOut 30 = .ok (.iload_n 3, 1) := by decide +kernel
theorem dX1_takeOut_31 : decode cX1_takeOut 31 = .ok (.invokestatic 151, 3) := by decide +kernel
theorem dX1_takeOut_34 : decode cX1_takeOut 34 = .ok (.dup2, 1) := by decide +kernel
theorem dX1_takeOut_35 : decode cX1_takeOut 35 = .ok (.iaload, 1) := by decide +kernel
theorem dX1_takeOut_36 : decode cX1_takeOut 36 = .ok (.iload 4, 2) := by decide +kernel
theorem dX1_takeOut_38 : decode cX1_takeOut 38 = .ok (.isub, 1) := by decide +kernel
theorem dX1_takeOut_39 : decode cX1_takeOut 39 = .ok (.iastore, 1) := by decide +kernel
theorem dX1_takeOut_40 : decode cX1_takeOut 40 = .ok (.aload_n 1, 1) := by decide +kernel
theorem dX1_takeOut_41 : decode cX1_takeOut 41 = .ok (.dup, 1) := by decide +kernel
theorem dX1_takeOut_42 : decode cX1_takeOut 42 = .ok (.getfield 178, 3) := by decide +kernel
theorem dX1_takeOut_45 : decode cX1_takeOut 45 = .ok (.iload 4, 2) := by decide +kernel
theorem dX1_takeOut_47 : decode cX1_takeOut 47 = .ok (.isub, 1) := by decide +kernel
theorem dX1_takeOut_48 : decode cX1_takeOut 48 = .ok (.putfield 178, 3) := by decide +kernel
theorem dX1_takeOut_51 : decode cX1_takeOut 51 = .ok (.aload_n 1, 1) := by decide +kernel
theorem dX1_takeOut_52 : decode cX1_takeOut 52 = .ok (.getfield 178, 3) := by decide +kernel
theorem dX1_takeOut_55 : decode cX1_takeOut 55 = .ok (.ifCond .ne 8, 3) := by decide +kernel
theorem dX1_takeOut_58 : decode cX1_takeOut 58 = .ok (.aload_n 1, 1) := by decide +kernel
theorem dX1_takeOut_59 : decode cX1_takeOut 59 = .ok (.iconst 3, 1) := by decide +kernel
theorem dX1_takeOut_60 : decode cX1_takeOut 60 = .ok (.putfield 79, 3) := by decide +kernel
theorem dX1_takeOut_63 : decode cX1_takeOut 63 = .ok (.iload 5, 2) := by decide +kernel
theorem dX1_takeOut_65 : decode cX1_takeOut 65 = .ok (.ireturn, 1) := by decide +kernel
theorem dX2_init_0 : decode cX2_init 0 = .ok (.aload_n 0, 1) := by decide +kernel
theorem dX2_init_1 : decode cX2_init 1 = .ok (.invokespecial 1, 3) := by decide +kernel
theorem dX2_init_4 : decode cX2_init 4 = .ok (.aload_n 0, 1) := by decide +kernel
theorem dX2_init_5 : decode cX2_init 5 = .ok (.bipush 6, 2) := by decide +kernel
theorem dX2_init_7 : decode cX2_init 7 = .ok (.newarray .int, 2) := by decide +kernel
theorem dX2_init_9 : decode cX2_init 9 = .ok (.putfield 7, 3) := by decide +kernel
theorem dX2_init_12 : decode cX2_init 12 = .ok (.aload_n 0, 1) := by decide +kernel
theorem dX2_init_13 : decode cX2_init 13 = .ok (.bipush 6, 2) := by decide +kernel
theorem dX2_init_15 : decode cX2_init 15 = .ok (.newarray .int, 2) := by decide +kernel
theorem dX2_init_17 : decode cX2_init 17 = .ok (.putfield 13, 3) := by decide +kernel
theorem dX2_init_20 : decode cX2_init 20 = .ok (.aload_n 0, 1) := by decide +kernel
theorem dX2_init_21 : decode cX2_init 21 = .ok (.bipush 25, 2) := by decide +kernel
theorem dX2_init_23 : decode cX2_init 23 = .ok (.putfield 16, 3) := by decide +kernel
theorem dX2_init_26 : decode cX2_init 26 = .ok (.aload_n 0, 1) := by decide +kernel
theorem dX2_init_27 : decode cX2_init 27 = .ok (.iconst 4, 1) := by decide +kernel
theorem dX2_init_28 : decode cX2_init 28 = .ok (.newarray .int, 2) := by decide +kernel
theorem dX2_init_30 : decode cX2_init 30 = .ok (.putfield 20, 3) := by decide +kernel
theorem dX2_init_33 : decode cX2_init 33 = .ok (.aload_n 0, 1) := by decide +kernel
theorem dX2_init_34 : decode cX2_init 34 = .ok (.iconst 4, 1) := by decide +kernel
theorem dX2_init_35 : decode cX2_init 35 = .ok (.newarray .int, 2) := by decide +kernel
theorem dX2_init_37 : decode cX2_init 37 = .ok (.putfield 23, 3) := by decide +kernel
theorem dX2_init_40 : decode cX2_init 40 = .ok (.aload_n 0, 1) := by decide +kernel
theorem dX2_init_41 : decode cX2_init 41 = .ok (.iconst 4, 1) := by decide +kernel
theorem dX2_init_42 : decode cX2_init 42 = .ok (.newarray .int, 2) := by decide +kernel
theorem dX2_init_44 : decode cX2_init 44 = .ok (.putfield 26, 3) := by decide +kernel
theorem dX2_init_47 : decode cX2_init 47 = .ok (.aload_n 0, 1) := by decide +kernel
theorem dX2_init_48 : decode cX2_init 48 = .ok (.bipush 15, 2) := by decide +kernel
theorem dX2_init_50 : decode cX2_init 50 = .ok (.newarray .int, 2) := by decide +kernel
theorem dX2_init_52 : decode cX2_init 52 = .ok (.putfield 29, 3) := by decide +kernel
theorem dX2_init_55 : decode cX2_init 55 = .ok (.aload_n 0, 1) := by decide +kernel
theorem dX2_init_56 : decode cX2_init 56 = .ok (.bipush 15, 2) := by decide +kernel
theorem dX2_init_58 : decode cX2_init 58 = .ok (.newarray .int, 2) := by decide +kernel
theorem dX2_init_60 : decode cX2_init 60 = .ok (.putfield 32, 3) := by decide +kernel
theorem dX2_init_63 : decode cX2_init 63 = .ok (.aload_n 0, 1) := by decide +kernel
theorem dX2_init_64 : decode cX2_init 64 = .ok (.bipush 15, 2) := by decide +kernel
theorem dX2_init_66 : decode cX2_init 66 = .ok (.newarray .int, 2) := by decide +kernel
theorem dX2_init_68 : decode cX2_init 68 = .ok (.putfield 35, 3) := by decide +kernel
theorem dX2_init_71 : decode cX2_init 71 = .ok (.aload_n 0, 1) := by decide +kernel
theorem dX2_init_72 : decode cX2_init 72 = .ok (.bipush 15, 2) := by decide +kernel
theorem dX2_init_74 : decode cX2_init 74 = .ok (.newarray .int, 2) := by decide +kernel
theorem dX2_init_76 : decode cX2_init 76 = .ok (.putfield 38, 3) := by decide +kernel
theorem dX2_init_79 : decode cX2_init 79 = .ok (.aload_n 0, 1) := by decide +kernel
theorem dX2_init_80 : decode cX2_init 80 = .ok (.bipush 15, 2) := by decide +kernel
theorem dX2_init_82 : decode cX2_init 82 = .ok (.newarray .int, 2) := by decide +kernel
theorem dX2_init_84 : decode cX2_init 84 = .ok (.putfield 41, 3) := by decide +kernel
theorem dX2_init_87 : decode cX2_init 87 = .ok (.aload_n 0, 1) := by decide +kernel
theorem dX2_init_88 : decode cX2_init 88 = .ok (.bipush 15, 2) := by decide +kernel
theorem dX2_init_90 : decode cX2_init 90 = .ok (.newarray .int, 2) := by decide +kernel
theorem dX2_init_92 : decode cX2_init 92 = .ok (.putfield 44, 3) := by decide +kernel
theorem dX2_init_95 : decode cX2_init 95 = .ok (.aload_n 0, 1) := by decide +kernel
theorem dX2_init_96 : decode cX2_init 96 = .ok (.bipush 15, 2) := by decide +kernel
theorem dX2_init_98 : decode cX2_init 98 = .ok (.newarray .boolean, 2) := by decide +kernel
theorem dX2_init_100 : decode cX2_init 100 = .ok (.putfield 47, 3) := by decide +kernel
theorem dX2_init_103 : decode cX2_init 103 = .ok (.aload_n 0, 1) := by decide +kernel
theorem dX2_init_104 : decode cX2_init 104 = .ok (.bipush 15, 2) := by decide +kernel
theorem dX2_init_106 : decode cX2_init 106 = .ok (.newarray .boolean, 2) := by decide +kernel
theorem dX2_init_108 : decode cX2_init 108 = .ok (.putfield 51, 3) := by decide +kernel
theorem dX2_init_111 : decode cX2_init 111 = .ok (.aload_n 0, 1) := by decide +kernel
theorem dX2_init_112 : decode cX2_init 112 = .ok (.bipush 90, 2) := by decide +kernel
theorem dX2_init_114 : decode cX2_init 114 = .ok (.newarray .int, 2) := by decide +kernel
theorem dX2_init_116 : decode cX2_init 116 = .ok (.putfield 54, 3) := by decide +kernel
theorem dX2_init_119 : decode cX2_init 119 = .ok (.aload_n 0, 1) := by decide +kernel
theorem dX2_init_120 : decode cX2_init 120 = .ok (.bipush 90, 2) := by decide +kernel
theorem dX2_init_122 : decode cX2_init 122 = .ok (.newarray .int, 2) := by decide +kernel
theorem dX2_init_124 : decode cX2_init 124 = .ok (.putfield 57, 3) := by decide +kernel
theorem dX2_init_127 : decode cX2_init 127 = .ok (.aload_n 0, 1) := by decide +kernel
theorem dX2_init_128 : decode cX2_init 128 = .ok (.sipush 270, 3) := by decide +kernel
theorem dX2_init_131 : decode cX2_init 131 = .ok (.newarray .int, 2) := by decide +kernel
theorem dX2_init_133 : decode cX2_init 133 = .ok (.putfield 60, 3) := by decide +kernel
theorem dX2_init_136 : decode cX2_init 136 = .ok (.iconst 0, 1) := by decide +kernel
theorem dX2_init_137 : decode cX2_init 137 = .ok (.istore_n 1, 1) := by decide +kernel
theorem dX2_init_138 : decode cX2_init 138 = .ok (.iload_n 1, 1) := by decide +kernel
theorem dX2_init_139 : decode cX2_init 139 = .ok (.bipush 6, 2) := by decide +kernel
theorem dX2_init_141 : decode cX2_init 141 = .ok (.if_icmp .ge 16, 3) := by decide +kernel
theorem dX2_init_144 : decode cX2_init 144 = .ok (.aload_n 0, 1) := by decide +kernel
theorem dX2_init_145 : decode cX2_init 145 = .ok (.getfield 7, 3) := by decide +kernel
theorem dX2_init_148 : decode cX2_init 148 = .ok (.iload_n 1, 1) := by decide +kernel
theorem dX2_init_149 : decode cX2_init 149 = .ok (.iconst 1, 1) := by decide +kernel
theorem dX2_init_150 : decode cX2_init 150 = .ok (.iastore, 1) := by decide +kernel
theorem dX2_init_151 : decode cX2_init 151 = .ok (.iinc 1 1, 3) := by decide +kernel
theorem dX2_init_154 : decode cX2_init 154 = .ok (.goto (-16), 3) := by decide +kernel
theorem dX2_init_157 : decode cX2_init 157 = .ok (.return_, 1) := by decide +kernel
theorem dX2_thrown_0 : decode cX2_thrown 0 = .ok (.aload_n 0, 1) := by decide +kernel
theorem dX2_thrown_1 : decode cX2_thrown 1 = .ok (.getfield 63, 3) := by decide +kernel
theorem dX2_thrown_4 : decode cX2_thrown 4 = .ok (.ireturn, 1) := by decide +kernel
theorem dX2_isFine_0 : decode cX2_isFine 0 = .ok (.aload_n 0, 1) := by decide +kernel
theorem dX2_isFine_1 : decode cX2_isFine 1 = .ok (.iload_n 1, 1) := by decide +kernel
theorem dX2_isFine_2 : decode cX2_isFine 2 = .ok (.putfield 63, 3) := by decide +kernel
theorem dX2_isFine_5 : decode cX2_isFine 5 = .ok (.iload_n 1, 1) := by decide +kernel
theorem dX2_isFine_6 : decode cX2_isFine 6 = .ok (.ifCond .ne 7, 3) := by decide +kernel
theorem dX2_isFine_9 : decode cX2_isFine 9 = .ok (.iconst 1, 1) := by decide +kernel
theorem dX2_isFine_10 : decode cX2_isFine 10 = .ok (.goto 4, 3) := by decide +kernel
theorem dX2_isFine_13 : decode cX2_isFine 13 = .ok (.iconst 0, 1) := by decide +kernel
theorem dX2_isFine_14 : decode cX2_isFine 14 = .ok (.ireturn, 1) := by decide +kernel
theorem dX2_isIn_0 : decode cX2_isIn 0 = .ok (.iload_n 0, 1) := by decide +kernel
theorem dX2_isIn_1 : decode cX2_isIn 1 = .ok (.iload_n 1, 1) := by decide +kernel
theorem dX2_isIn_2 : decode cX2_isIn 2 = .ok (.if_icmp .lt 12, 3) := by decide +kernel
theorem dX2_isIn_5 : decode cX2_isIn 5 = .ok (.iload_n 0, 1) := by decide +kernel
theorem dX2_isIn_6 : decode cX2_isIn 6 = .ok (.iload_n 2, 1) := by decide +kernel
theorem dX2_isIn_7 : decode cX2_isIn 7 = .ok (.if_icmp .gt 7, 3) := by decide +kernel
theorem dX2_isIn_10 : decode cX2_isIn 10 = .ok (.iconst 1, 1) := by decide +kernel
theorem dX2_isIn_11 : decode cX2_isIn 11 = .ok (.goto 4, 3) := by decide +kernel
theorem dX2_isIn_14 : decode cX2_isIn 14 = .ok (.iconst 0, 1) := by decide +kernel
theorem dX2_isIn_15 : decode cX2_isIn 15 = .ok (.ireturn, 1) := by decide +kernel
theorem dX2_isSort_0 : decode cX2_isSort 0 = .ok (.iload_n 0, 1) := by decide +kernel
theorem dX2_isSort_1 : decode cX2_isSort 1 = .ok (.iconst 0, 1) := by decide +kernel
theorem dX2_isSort_2 : decode cX2_isSort 2 = .ok (.iconst 5, 1) := by decide +kernel
theorem dX2_isSort_3 : decode cX2_isSort 3 = .ok (.invokestatic 66, 3) := by decide +kernel
theorem dX2_isSort_6 : decode cX2_isSort 6 = .ok (.ireturn, 1) := by decide +kernel
theorem dX2_isTrader_0 : decode cX2_isTrader 0 = .ok (.iload_n 0, 1) := by decide +kernel
theorem dX2_isTrader_1 : decode cX2_isTrader 1 = .ok (.iconst 0, 1) := by decide +kernel
theorem dX2_isTrader_2 : decode cX2_isTrader 2 = .ok (.iconst 3, 1) := by decide +kernel
theorem dX2_isTrader_3 : decode cX2_isTrader 3 = .ok (.invokestatic 66, 3) := by decide +kernel
theorem dX2_isTrader_6 : decode cX2_isTrader 6 = .ok (.ireturn, 1) := by decide +kernel
theorem dX2_isStore_0 : decode cX2_isStore 0 = .ok (.iload_n 0, 1) := by decide +kernel
theorem dX2_isStore_1 : decode cX2_isStore 1 = .ok (.iconst 0, 1) := by decide +kernel
theorem dX2_isStore_2 : decode cX2_isStore 2 = .ok (.iconst 2, 1) := by decide +kernel
theorem dX2_isStore_3 : decode cX2_isStore 3 = .ok (.invokestatic 66, 3) := by decide +kernel
theorem dX2_isStore_6 : decode cX2_isStore 6 = .ok (.ireturn, 1) := by decide +kernel
theorem dX2_isConsignment_0 : decode cX2_isConsignment 0 = .ok (.iload_n 1, 1) := by decide +kernel
theorem dX2_isConsignment_1 : decode cX2_isConsignment 1 = .ok (.iconst 0, 1) := by decide +kernel
theorem dX2_isConsignment_2 : decode cX2_isConsignment 2 = .ok (.aload_n 0, 1) := by decide +kernel
theorem dX2_isConsignment_3 : decode cX2_isConsignment 3 = .ok (.getfield 70, 3) := by decide +kernel
theorem dX2_isConsignment_6 : decode cX2_isConsignment 6 = .ok (.iconst 1, 1) := by decide +kernel
theorem dX2_isConsignment_7 : decode cX2_isConsignment 7 = .ok (.isub, 1) := by decide +kernel
theorem dX2_isConsignment_8 : decode cX2_isConsignment 8 = .ok (.invokestatic 66, 3) := by decide +kernel
theorem dX2_isConsignment_11 : decode cX2_isConsignment 11 = .ok (.ireturn, 1) := by decide +kernel
theorem dX2_at_0 : decode cX2_at 0 = .ok (.iconst 3, 1) := by decide +kernel
theorem dX2_at_1 : decode cX2_at 1 = .ok (.bipush 6, 2) := by decide +kernel
theorem dX2_at_3 : decode cX2_at 3 = .ok (.iload_n 0, 1) := by decide +kernel
theorem dX2_at_4 : decode cX2_at 4 = .ok (.imul, 1) := by decide +kernel
theorem dX2_at_5 : decode cX2_at 5 = .ok (.iload_n 1, 1) := by decide +kernel
theorem dX2_at_6 : decode cX2_at 6 = .ok (.iadd, 1) := by decide +kernel
theorem dX2_at_7 : decode cX2_at 7 = .ok (.imul, 1) := by decide +kernel
theorem dX2_at_8 : decode cX2_at 8 = .ok (.iload_n 2, 1) := by decide +kernel
theorem dX2_at_9 : decode cX2_at 9 = .ok (.iadd, 1) := by decide +kernel
theorem dX2_at_10 : decode cX2_at 10 = .ok (.ireturn, 1) := by decide +kernel
theorem dX2_setSort_0 : decode cX2_setSort 0 = .ok (.aload_n 0, 1) := by decide +kernel
theorem dX2_setSort_1 : decode cX2_setSort 1 = .ok (.iload_n 1, 1) := by decide +kernel
theorem dX2_setSort_2 : decode cX2_setSort 2 = .ok (.invokestatic 73, 3) := by decide +kernel
theorem dX2_setSort_5 : decode cX2_setSort 5 = .ok (.ifCond .eq 27, 3) := by decide +kernel
theorem dX2_setSort_8 : decode cX2_setSort 8 = .ok (.iload_n 2, 1) := by decide +kernel
theorem dX2_setSort_9 : decode cX2_setSort 9 = .ok (.iconst 0, 1) := by decide +kernel
theorem dX2_setSort_10 : decode cX2_setSort 10 = .ok (.bipush 50, 2) := by decide +kernel
theorem dX2_setSort_12 : decode cX2_setSort 12 = .ok (.invokestatic 66, 3) := by decide +kernel
theorem dX2_setSort_15 : decode cX2_setSort 15 = .ok (.ifCond .eq 17, 3) := by decide +kernel
theorem dX2_setSort_18 : decode cX2_setSort 18 = .ok (.iload_n 3, 1) := by decide +kernel
theorem dX2_setSort_19 : decode cX2_setSort 19 = .ok (.iconst 0, 1) := by decide +kernel
theorem dX2_setSort_20 : decode cX2_setSort 20 = .ok (.bipush 20, 2) := by decide +kernel
theorem dX2_setSort_22 : decode cX2_setSort 22 = .ok (.invokestatic 66, 3) := by decide +kernel
theorem dX2_setSort_25 : decode cX2_setSort 25 = .ok (.ifCond .eq 7, 3) := by decide +kernel
theorem dX2_setSort_28 : decode cX2_setSort 28 = .ok (.iconst 0, 1) := by decide +kernel
theorem dX2_setSort_29 : decode cX2_setSort 29 = .ok (.goto 4, 3) := by decide +kernel
theorem dX2_setSort_32 : decode cX2_setSort 32 = .ok (.iconst 1, 1) := by decide +kernel
theorem dX2_setSort_33 : decode cX2_setSort 33 = .ok (.invokevirtual 77, 3) := by decide +kernel
theorem dX2_setSort_36 : decode cX2_setSort 36 = .ok (.ifCond .eq 17, 3) := by decide +kernel
theorem dX2_setSort_39 : decode cX2_setSort 39 = .ok (.aload_n 0, 1) := by decide +kernel
theorem dX2_setSort_40 : decode cX2_setSort 40 = .ok (.getfield 7, 3) := by decide +kernel
theorem dX2_setSort_43 : decode cX2_setSort 43 = .ok (.iload_n 1, 1) := by decide +kernel
theorem dX2_setSort_44 : decode cX2_setSort 44 = .ok (.iload_n 2, 1) := by decide +kernel
theorem dX2_setSort_45 : decode cX2_setSort 45 = .ok (.iastore, 1) := by decide +kernel
theorem dX2_setSort_46 : decode cX2_setSort 46 = .ok (.aload_n 0, 1) := by decide +kernel
theorem dX2_setSort_47 : decode cX2_setSort 47 = .ok (.getfield 13, 3) := by decide +kernel
theorem dX2_setSort_50 : decode cX2_setSort 50 = .ok (.iload_n 1, 1) := by decide +kernel
theorem dX2_setSort_51 : decode cX2_setSort 51 = .ok (.iload_n 3, 1) := by decide +kernel
theorem dX2_setSort_52 : decode cX2_setSort 52 = .ok (.iastore, 1) := by decide +kernel
theorem dX2_setSort_53 : decode cX2_setSort 53 = .ok (.return_, 1) := by decide +kernel
theorem dX2_setRisk_0 : decode cX2_setRisk 0 = .ok (.aload_n 0, 1) := by decide +kernel
theorem dX2_setRisk_1 : decode cX2_setRisk 1 = .ok (.iload_n 1, 1) := by decide +kernel
theorem dX2_setRisk_2 : decode cX2_setRisk 2 = .ok (.iconst 0, 1) := by decide +kernel
theorem dX2_setRisk_3 : decode cX2_setRisk 3 = .ok (.sipush 200, 3) := by decide +kernel
theorem dX2_setRisk_6 : decode cX2_setRisk 6 = .ok (.invokestatic 66, 3) := by decide +kernel
theorem dX2_setRisk_9 : decode cX2_setRisk 9 = .ok (.ifCond .eq 17, 3) := by decide +kernel
theorem dX2_setRisk_12 : decode cX2_setRisk 12 = .ok (.iload_n 2, 1) := by decide +kernel
theorem dX2_setRisk_13 : decode cX2_setRisk 13 = .ok (.iconst 0, 1) := by decide +kernel
theorem dX2_setRisk_14 : decode cX2_setRisk 14 = .ok (.bipush 10, 2) := by decide +kernel
theorem dX2_setRisk_16 : decode cX2_setRisk 16 = .ok (.invokestatic 66, 3) := by decide +kernel
theorem dX2_setRisk_19 : decode cX2_setRisk 19 = .ok (.ifCond .eq 7, 3) := by decide +kernel
theorem dX2_setRisk_22 : decode cX2_setRisk 22 = .ok (.iconst 0, 1) := by decide +kernel
theorem dX2_setRisk_23 : decode cX2_setRisk 23 = .ok (.goto 4, 3) := by decide +kernel
theorem dX2_setRisk_26 : decode cX2_setRisk 26 = .ok (.iconst 1, 1) := by decide +kernel
theorem dX2_setRisk_27 : decode cX2_setRisk 27 = .ok (.invokevirtual 77, 3) := by decide +kernel
theorem dX2_setRisk_30 : decode cX2_setRisk 30 = .ok (.ifCond .ne 5, 3) := by decide +kernel
theorem dX2_setRisk_33 : decode cX2_setRisk 33 = .ok (.iconst 0, 1) := by decide +kernel
theorem dX2_setRisk_34 : decode cX2_setRisk 34 = .ok (.ireturn, 1) := by decide +kernel
theorem dX2_setRisk_35 : decode cX2_setRisk 35 = .ok (.aload_n 0, 1) := by decide +kernel
theorem dX2_setRisk_36 : decode cX2_setRisk 36 = .ok (.iload_n 1, 1) := by decide +kernel
theorem dX2_setRisk_37 : decode cX2_setRisk 37 = .ok (.putfield 16, 3) := by decide +kernel
theorem dX2_setRisk_40 : decode cX2_setRisk 40 = .ok (.aload_n 0, 1) := by decide +kernel
theorem dX2_setRisk_41 : decode cX2_setRisk 41 = .ok (.iload_n 2, 1) := by decide +kernel
theorem dX2_setRisk_42 : decode cX2_setRisk 42 = .ok (.putfield 80, 3) := by decide +kernel
theorem dX2_setRisk_45 : decode cX2_setRisk 45 = .ok (.iconst 0, 1) := by decide +kernel
theorem dX2_setRisk_46 : decode cX2_setRisk 46 = .ok (.istore_n 3, 1) := by decide +kernel
theorem dX2_setRisk_47 : decode cX2_setRisk 47 = .ok (.iconst 0, 1) := by decide +kernel
theorem dX2_setRisk_48 : decode cX2_setRisk 48 = .ok (.istore 4, 2) := by decide +kernel
theorem dX2_setRisk_50 : decode cX2_setRisk 50 = .ok (.iload 4, 2) := by decide +kernel
theorem dX2_setRisk_52 : decode cX2_setRisk 52 = .ok (.aload_n 0, 1) := by decide +kernel
theorem dX2_setRisk_53 : decode cX2_setRisk 53 = .ok (.getfield 70, 3) := by decide +kernel
theorem dX2_setRisk_56 : decode cX2_setRisk 56 = .ok (.if_icmp .ge 26, 3) := by decide +kernel
theorem dX2_setRisk_59 : decode cX2_setRisk 59 = .ok (.iload_n 3, 1) := by decide +kernel
theorem dX2_setRisk_60 : decode cX2_setRisk 60 = .ok (.aload_n 0, 1) := by decide +kernel
theorem dX2_setRisk_61 : decode cX2_setRisk 61 = .ok (.iload 4, 2) := by decide +kernel
theorem dX2_setRisk_63 : decode cX2_setRisk 63 = .ok (.invokevirtual 83, 3) := by decide +kernel
theorem dX2_setRisk_66 : decode cX2_setRisk 66 = .ok (.ifCond .eq 7, 3) := by decide +kernel
theorem dX2_setRisk_69 : decode cX2_setRisk 69 = .ok (.iconst 1, 1) := by decide +kernel
theorem dX2_setRisk_70 : decode cX2_setRisk 70 = .ok (.goto 4, 3) := by decide +kernel
theorem dX2_setRisk_73 : decode cX2_setRisk 73 = .ok (.iconst 0, 1) := by decide +kernel
theorem dX2_setRisk_74 : decode cX2_setRisk 74 = .ok (.iadd, 1) := by decide +kernel
theorem dX2_setRisk_75 : decode cX2_setRisk 75 = .ok (.istore_n 3, 1) := by decide +kernel
theorem dX2_setRisk_76 : decode cX2_setRisk 76 = .ok (.iinc 4 1, 3) := by decide +kernel
theorem dX2_setRisk_79 : decode cX2_setRisk 79 = .ok (.goto (-29), 3) := by decide +kernel
theorem dX2_setRisk_82 : decode cX2_setRisk 82 = .ok (.iload_n 3, 1) := by decide +kernel
