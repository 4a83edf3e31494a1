theorem dX2_setRisk_83 : decode cX2_setRisk 83 = .ok (.ireturn, 1) := by decide +kernel
theorem dX2_setGuarantee_0 : decode cX2_setGuarantee 0 = .ok (.iload_n 1, 1) := by decide +kernel
theorem dX2_setGuarantee_1 : decode cX2_setGuarantee 1 = .ok (.invokestatic 86, 3) := by decide +kernel
theorem dX2_setGuarantee_4 : decode cX2_setGuarantee 4 = .ok (.ifCond .eq 17, 3) := by decide +kernel
theorem dX2_setGuarantee_7 : decode cX2_setGuarantee 7 = .ok (.iload_n 2, 1) := by decide +kernel
theorem dX2_setGuarantee_8 : decode cX2_setGuarantee 8 = .ok (.iconst 0, 1) := by decide +kernel
theorem dX2_setGuarantee_9 : decode cX2_setGuarantee 9 = .ok (.ldc 89, 2) := by decide +kernel
theorem dX2_setGuarantee_11 : decode cX2_setGuarantee 11 = .ok (.invokestatic 66, 3) := by decide +kernel
theorem dX2_setGuarantee_14 : decode cX2_setGuarantee 14 = .ok (.ifCond .eq 7, 3) := by decide +kernel
theorem dX2_setGuarantee_17 : decode cX2_setGuarantee 17 = .ok (.iconst 1, 1) := by decide +kernel
theorem dX2_setGuarantee_18 : decode cX2_setGuarantee 18 = .ok (.goto 4, 3) := by decide +kernel
theorem dX2_setGuarantee_21 : decode cX2_setGuarantee 21 = .ok (.iconst 0, 1) := by decide +kernel
theorem dX2_setGuarantee_22 : decode cX2_setGuarantee 22 = .ok (.istore_n 3, 1) := by decide +kernel
theorem dX2_setGuarantee_23 : decode cX2_setGuarantee 23 = .ok (.aload_n 0, 1) := by decide +kernel
theorem dX2_setGuarantee_24 : decode cX2_setGuarantee 24 = .ok (.iload_n 3, 1) := by decide +kernel
theorem dX2_setGuarantee_25 : decode cX2_setGuarantee 25 = .ok (.ifCond .ne 7, 3) := by decide +kernel
theorem dX2_setGuarantee_28 : decode cX2_setGuarantee 28 = .ok (.iconst 1, 1) := by decide +kernel
theorem dX2_setGuarantee_29 : decode cX2_setGuarantee 29 = .ok (.goto 18, 3) := by decide +kernel
theorem dX2_setGuarantee_32 : decode cX2_setGuarantee 32 = .ok (.aload_n 0, 1) := by decide +kernel
theorem dX2_setGuarantee_33 : decode cX2_setGuarantee 33 = .ok (.getfield 23, 3) := by decide +kernel
theorem dX2_setGuarantee_36 : decode cX2_setGuarantee 36 = .ok (.iload_n 1, 1) := by decide +kernel
theorem dX2_setGuarantee_37 : decode cX2_setGuarantee 37 = .ok (.iaload, 1) := by decide +kernel
theorem dX2_setGuarantee_38 : decode cX2_setGuarantee 38 = .ok (.iload_n 2, 1) := by decide +kernel
theorem dX2_setGuarantee_39 : decode cX2_setGuarantee 39 = .ok (.if_icmp .le 7, 3) := by decide +kernel
theorem dX2_setGuarantee_42 : decode cX2_setGuarantee 42 = .ok (.iconst 2, 1) := by decide +kernel
theorem dX2_setGuarantee_43 : decode cX2_setGuarantee 43 = .ok (.goto 4, 3) := by decide +kernel
theorem dX2_setGuarantee_46 : decode cX2_setGuarantee 46 = .ok (.iconst 0, 1) := by decide +kernel
theorem dX2_setGuarantee_47 : decode cX2_setGuarantee 47 = .ok (.invokevirtual 77, 3) := by decide +kernel
theorem dX2_setGuarantee_50 : decode cX2_setGuarantee 50 = .ok (.ifCond .ne 5, 3) := by decide +kernel
theorem dX2_setGuarantee_53 : decode cX2_setGuarantee 53 = .ok (.iconst 0, 1) := by decide +kernel
theorem dX2_setGuarantee_54 : decode cX2_setGuarantee 54 = .ok (.ireturn, 1) := by decide +kernel
theorem dX2_setGuarantee_55 : decode cX2_setGuarantee 55 = .ok (.aload_n 0, 1) := by decide +kernel
theorem dX2_setGuarantee_56 : decode cX2_setGuarantee 56 = .ok (.getfield 20, 3) := by decide +kernel
theorem dX2_setGuarantee_59 : decode cX2_setGuarantee 59 = .ok (.iload_n 1, 1) := by decide +kernel
theorem dX2_setGuarantee_60 : decode cX2_setGuarantee 60 = .ok (.iaload, 1) := by decide +kernel
theorem dX2_setGuarantee_61 : decode cX2_setGuarantee 61 = .ok (.istore 4, 2) := by decide +kernel
theorem dX2_setGuarantee_63 : decode cX2_setGuarantee 63 = .ok (.aload_n 0, 1) := by decide +kernel
theorem dX2_setGuarantee_64 : decode cX2_setGuarantee 64 = .ok (.getfield 20, 3) := by decide +kernel
theorem dX2_setGuarantee_67 : decode cX2_setGuarantee 67 = .ok (.iload_n 1, 1) := by decide +kernel
theorem dX2_setGuarantee_68 : decode cX2_setGuarantee 68 = .ok (.iload_n 2, 1) := by decide +kernel
theorem dX2_setGuarantee_69 : decode cX2_setGuarantee 69 = .ok (.iastore, 1) := by decide +kernel
theorem dX2_setGuarantee_70 : decode cX2_setGuarantee 70 = .ok (.iload 4, 2) := by decide +kernel
theorem dX2_setGuarantee_72 : decode cX2_setGuarantee 72 = .ok (.ireturn, 1) := by decide +kernel
theorem dX2_announce_0 : decode cX2_announce 0 = .ok (.iload_n 1, 1) := by decide +kernel
theorem dX2_announce_1 : decode cX2_announce 1 = .ok (.invokestatic 86, 3) := by decide +kernel
theorem dX2_announce_4 : decode cX2_announce 4 = .ok (.ifCond .eq 18, 3) := by decide +kernel
theorem dX2_announce_7 : decode cX2_announce 7 = .ok (.iload_n 2, 1) := by decide +kernel
theorem dX2_announce_8 : decode cX2_announce 8 = .ok (.iconst 0, 1) := by decide +kernel
theorem dX2_announce_9 : decode cX2_announce 9 = .ok (.sipush 999, 3) := by decide +kernel
theorem dX2_announce_12 : decode cX2_announce 12 = .ok (.invokestatic 66, 3) := by decide +kernel
theorem dX2_announce_15 : decode cX2_announce 15 = .ok (.ifCond .eq 7, 3) := by decide +kernel
theorem dX2_announce_18 : decode cX2_announce 18 = .ok (.iconst 1, 1) := by decide +kernel
theorem dX2_announce_19 : decode cX2_announce 19 = .ok (.goto 4, 3) := by decide +kernel
theorem dX2_announce_22 : decode cX2_announce 22 = .ok (.iconst 0, 1) := by decide +kernel
theorem dX2_announce_23 : decode cX2_announce 23 = .ok (.istore_n 3, 1) := by decide +kernel
theorem dX2_announce_24 : decode cX2_announce 24 = .ok (.aload_n 0, 1) := by decide +kernel
theorem dX2_announce_25 : decode cX2_announce 25 = .ok (.iload_n 3, 1) := by decide +kernel
theorem dX2_announce_26 : decode cX2_announce 26 = .ok (.ifCond .ne 7, 3) := by decide +kernel
theorem dX2_announce_29 : decode cX2_announce 29 = .ok (.iconst 1, 1) := by decide +kernel
theorem dX2_announce_30 : decode cX2_announce 30 = .ok (.goto 17, 3) := by decide +kernel
theorem dX2_announce_33 : decode cX2_announce 33 = .ok (.aload_n 0, 1) := by decide +kernel
theorem dX2_announce_34 : decode cX2_announce 34 = .ok (.getfield 70, 3) := by decide +kernel
theorem dX2_announce_37 : decode cX2_announce 37 = .ok (.bipush 15, 2) := by decide +kernel
theorem dX2_announce_39 : decode cX2_announce 39 = .ok (.if_icmp .ne 7, 3) := by decide +kernel
theorem dX2_announce_42 : decode cX2_announce 42 = .ok (.iconst 2, 1) := by decide +kernel
theorem dX2_announce_43 : decode cX2_announce 43 = .ok (.goto 4, 3) := by decide +kernel
theorem dX2_announce_46 : decode cX2_announce 46 = .ok (.iconst 0, 1) := by decide +kernel
theorem dX2_announce_47 : decode cX2_announce 47 = .ok (.invokevirtual 77, 3) := by decide +kernel
theorem dX2_announce_50 : decode cX2_announce 50 = .ok (.ifCond .ne 5, 3) := by decide +kernel
theorem dX2_announce_53 : decode cX2_announce 53 = .ok (.iconst 0, 1) := by decide +kernel
theorem dX2_announce_54 : decode cX2_announce 54 = .ok (.ireturn, 1) := by decide +kernel
theorem dX2_announce_55 : decode cX2_announce 55 = .ok (.aload_n 0, 1) := by decide +kernel
theorem dX2_announce_56 : decode cX2_announce 56 = .ok (.getfield 29, 3) := by decide +kernel
theorem dX2_announce_59 : decode cX2_announce 59 = .ok (.aload_n 0, 1) := by decide +kernel
theorem dX2_announce_60 : decode cX2_announce 60 = .ok (.getfield 70, 3) := by decide +kernel
theorem dX2_announce_63 : decode cX2_announce 63 = .ok (.iload_n 1, 1) := by decide +kernel
theorem dX2_announce_64 : decode cX2_announce 64 = .ok (.iastore, 1) := by decide +kernel
theorem dX2_announce_65 : decode cX2_announce 65 = .ok (.aload_n 0, 1) := by decide +kernel
theorem dX2_announce_66 : decode cX2_announce 66 = .ok (.getfield 32, 3) := by decide +kernel
theorem dX2_announce_69 : decode cX2_announce 69 = .ok (.aload_n 0, 1) := by decide +kernel
theorem dX2_announce_70 : decode cX2_announce 70 = .ok (.getfield 70, 3) := by decide +kernel
theorem dX2_announce_73 : decode cX2_announce 73 = .ok (.iload_n 2, 1) := by decide +kernel
theorem dX2_announce_74 : decode cX2_announce 74 = .ok (.iastore, 1) := by decide +kernel
theorem dX2_announce_75 : decode cX2_announce 75 = .ok (.aload_n 0, 1) := by decide +kernel
theorem dX2_announce_76 : decode cX2_announce 76 = .ok (.dup, 1) := by decide +kernel
theorem dX2_announce_77 : decode cX2_announce 77 = .ok (.getfield 70, 3) := by decide +kernel
theorem dX2_announce_80 : decode cX2_announce 80 = .ok (.iconst 1, 1) := by decide +kernel
theorem dX2_announce_81 : decode cX2_announce 81 = .ok (.iadd, 1) := by decide +kernel
theorem dX2_announce_82 : decode cX2_announce 82 = .ok (.putfield 70, 3) := by decide +kernel
theorem dX2_announce_85 : decode cX2_announce 85 = .ok (.aload_n 0, 1) := by decide +kernel
theorem dX2_announce_86 : decode cX2_announce 86 = .ok (.getfield 70, 3) := by decide +kernel
theorem dX2_announce_89 : decode cX2_announce 89 = .ok (.iconst 1, 1) := by decide +kernel
theorem dX2_announce_90 : decode cX2_announce 90 = .ok (.isub, 1) := by decide +kernel
theorem dX2_announce_91 : decode cX2_announce 91 = .ok (.ireturn, 1) := by decide +kernel
theorem dX2_amend_0 : decode cX2_amend 0 = .ok (.aload_n 0, 1) := by decide +kernel
theorem dX2_amend_1 : decode cX2_amend 1 = .ok (.iload_n 1, 1) := by decide +kernel
theorem dX2_amend_2 : decode cX2_amend 2 = .ok (.invokevirtual 90, 3) := by decide +kernel
theorem dX2_amend_5 : decode cX2_amend 5 = .ok (.istore 4, 2) := by decide +kernel
theorem dX2_amend_7 : decode cX2_amend 7 = .ok (.iload_n 2, 1) := by decide +kernel
theorem dX2_amend_8 : decode cX2_amend 8 = .ok (.invokestatic 73, 3) := by decide +kernel
theorem dX2_amend_11 : decode cX2_amend 11 = .ok (.ifCond .eq 17, 3) := by decide +kernel
theorem dX2_amend_14 : decode cX2_amend 14 = .ok (.iload_n 3, 1) := by decide +kernel
theorem dX2_amend_15 : decode cX2_amend 15 = .ok (.iconst 0, 1) := by decide +kernel
theorem dX2_amend_16 : decode cX2_amend 16 = .ok (.bipush 100, 2) := by decide +kernel
theorem dX2_amend_18 : decode cX2_amend 18 = .ok (.invokestatic 66, 3) := by decide +kernel
theorem dX2_amend_21 : decode cX2_amend 21 = .ok (.ifCond .eq 7, 3) := by decide +kernel
theorem dX2_amend_24 : decode cX2_amend 24 = .ok (.iconst 1, 1) := by decide +kernel
theorem dX2_amend_25 : decode cX2_amend 25 = .ok (.goto 4, 3) := by decide +kernel
theorem dX2_amend_28 : decode cX2_amend 28 = .ok (.iconst 0, 1) := by decide +kernel
theorem dX2_amend_29 : decode cX2_amend 29 = .ok (.istore 5, 2) := by decide +kernel
theorem dX2_amend_31 : decode cX2_amend 31 = .ok (.iload 4, 2) := by decide +kernel
theorem dX2_amend_33 : decode cX2_amend 33 = .ok (.ifCond .eq 36, 3) := by decide +kernel
theorem dX2_amend_36 : decode cX2_amend 36 = .ok (.iload 5, 2) := by decide +kernel
theorem dX2_amend_38 : decode cX2_amend 38 = .ok (.ifCond .eq 31, 3) := by decide +kernel
theorem dX2_amend_41 : decode cX2_amend 41 = .ok (.aload_n 0, 1) := by decide +kernel
theorem dX2_amend_42 : decode cX2_amend 42 = .ok (.getfield 35, 3) := by decide +kernel
theorem dX2_amend_45 : decode cX2_amend 45 = .ok (.iload_n 1, 1) := by decide +kernel
theorem dX2_amend_46 : decode cX2_amend 46 = .ok (.iaload, 1) := by decide +kernel
theorem dX2_amend_47 : decode cX2_amend 47 = .ok (.ifCond .ne 22, 3) := by decide +kernel
theorem dX2_amend_50 : decode cX2_amend 50 = .ok (.aload_n 0, 1) := by decide +kernel
theorem dX2_amend_51 : decode cX2_amend 51 = .ok (.getfield 54, 3) := by decide +kernel
theorem dX2_amend_54 : decode cX2_amend 54 = .ok (.bipush 6, 2) := by decide +kernel
theorem dX2_amend_56 : decode cX2_amend 56 = .ok (.iload_n 1, 1) := by decide +kernel
theorem dX2_amend_57 : decode cX2_amend 57 = .ok (.imul, 1) := by decide +kernel
theorem dX2_amend_58 : decode cX2_amend 58 = .ok (.iload_n 2, 1) := by decide +kernel
theorem dX2_amend_59 : decode cX2_amend 59 = .ok (.iadd, 1) := by decide +kernel
theorem dX2_amend_60 : decode cX2_amend 60 = .ok (.iaload, 1) := by decide +kernel
theorem dX2_amend_61 : decode cX2_amend 61 = .ok (.iload_n 3, 1) := by decide +kernel
theorem dX2_amend_62 : decode cX2_amend 62 = .ok (.if_icmp .eq 7, 3) := by decide +kernel
theorem dX2_amend_65 : decode cX2_amend 65 = .ok (.iconst 1, 1) := by decide +kernel
theorem dX2_amend_66 : decode cX2_amend 66 = .ok (.goto 4, 3) := by decide +kernel
theorem dX2_amend_69 : decode cX2_amend 69 = .ok (.iconst 0, 1) := by decide +kernel
theorem dX2_amend_70 : decode cX2_amend 70 = .ok (.istore 6, 2) := by decide +kernel
theorem dX2_amend_72 : decode cX2_amend 72 = .ok (.aload_n 0, 1) := by decide +kernel
theorem dX2_amend_73 : decode cX2_amend 73 = .ok (.iload 4, 2) := by decide +kernel
theorem dX2_amend_75 : decode cX2_amend 75 = .ok (.ifCond .ne 7, 3) := by decide +kernel
theorem dX2_amend_78 : decode cX2_amend 78 = .ok (.iconst 1, 1) := by decide +kernel
theorem dX2_amend_79 : decode cX2_amend 79 = .ok (.goto 22, 3) := by decide +kernel
theorem dX2_amend_82 : decode cX2_amend 82 = .ok (.iload 5, 2) := by decide +kernel
theorem dX2_amend_84 : decode cX2_amend 84 = .ok (.ifCond .ne 7, 3) := by decide +kernel
theorem dX2_amend_87 : decode cX2_amend 87 = .ok (.iconst 2, 1) := by decide +kernel
theorem dX2_amend_88 : decode cX2_amend 88 = .ok (.goto 13, 3) := by decide +kernel
theorem dX2_amend_91 : decode cX2_amend 91 = .ok (.iload 6, 2) := by decide +kernel
theorem dX2_amend_93 : decode cX2_amend 93 = .ok (.ifCond .ne 7, 3) := by decide +kernel
theorem dX2_amend_96 : decode cX2_amend 96 = .ok (.iconst 3, 1) := by decide +kernel
theorem dX2_amend_97 : decode cX2_amend 97 = .ok (.goto 4, 3) := by decide +kernel
theorem dX2_amend_100 : decode cX2_amend 100 = .ok (.iconst 0, 1) := by decide +kernel
theorem dX2_amend_101 : decode cX2_amend 101 = .ok (.invokevirtual 77, 3) := by decide +kernel
theorem dX2_amend_104 : decode cX2_amend 104 = .ok (.ifCond .ne 5, 3) := by decide +kernel
theorem dX2_amend_107 : decode cX2_amend 107 = .ok (.iconst 0, 1) := by decide +kernel
theorem dX2_amend_108 : decode cX2_amend 108 = .ok (.ireturn, 1) := by decide +kernel
theorem dX2_amend_109 : decode cX2_amend 109 = .ok (.aload_n 0, 1) := by decide +kernel
theorem dX2_amend_110 : decode cX2_amend 110 = .ok (.getfield 54, 3) := by decide +kernel
theorem dX2_amend_113 : decode cX2_amend 113 = .ok (.bipush 6, 2) := by decide +kernel
theorem dX2_amend_115 : decode cX2_amend 115 = .ok (.iload_n 1, 1) := by decide +kernel
theorem dX2_amend_116 : decode cX2_amend 116 = .ok (.imul, 1) := by decide +kernel
theorem dX2_amend_117 : decode cX2_amend 117 = .ok (.iload_n 2, 1) := by decide +kernel
theorem dX2_amend_118 : decode cX2_amend 118 = .ok (.iadd, 1) := by decide +kernel
theorem dX2_amend_119 : decode cX2_amend 119 = .ok (.iload_n 3, 1) := by decide +kernel
theorem dX2_amend_120 : decode cX2_amend 120 = .ok (.iastore, 1) := by decide +kernel
theorem dX2_amend_121 : decode cX2_amend 121 = .ok (.aload_n 0, 1) := by decide +kernel
theorem dX2_amend_122 : decode cX2_amend 122 = .ok (.getfield 38, 3) := by decide +kernel
theorem dX2_amend_125 : decode cX2_amend 125 = .ok (.iload_n 1, 1) := by decide +kernel
theorem dX2_amend_126 : decode cX2_amend 126 = .ok (.dup2, 1) := by decide +kernel
theorem dX2_amend_127 : decode cX2_amend 127 = .ok (.iaload, 1) := by decide +kernel
theorem dX2_amend_128 : decode cX2_amend 128 = .ok (.iconst 1, 1) := by decide +kernel
theorem dX2_amend_129 : decode cX2_amend 129 = .ok (.iadd, 1) := by decide +kernel
theorem dX2_amend_130 : decode cX2_amend 130 = .ok (.iastore, 1) := by decide +kernel
theorem dX2_amend_131 : decode cX2_amend 131 = .ok (.aload_n 0, 1) := by decide +kernel
theorem dX2_amend_132 : decode cX2_amend 132 = .ok (.getfield 38, 3) := by decide +kernel
theorem dX2_amend_135 : decode cX2_amend 135 = .ok (.iload_n 1, 1) := by decide +kernel
theorem dX2_amend_136 : decode cX2_amend 136 = .ok (.iaload, 1) := by decide +kernel
theorem dX2_amend_137 : decode cX2_amend 137 = .ok (.ireturn, 1) := by decide +kernel
theorem dX2_isEmpty_0 : decode cX2_isEmpty 0 = .ok (.iconst 0, 1) := by decide +kernel
theorem dX2_isEmpty_1 : decode cX2_isEmpty 1 = .ok (.istore_n 2, 1) := by decide +kernel
theorem dX2_isEmpty_2 : decode cX2_isEmpty 2 = .ok (.iconst 0, 1) := by decide +kernel
theorem dX2_isEmpty_3 : decode cX2_isEmpty 3 = .ok (.istore_n 3, 1) := by decide +kernel
theorem dX2_isEmpty_4 : decode cX2_isEmpty 4 = .ok (.iload_n 3, 1) := by decide +kernel
theorem dX2_isEmpty_5 : decode cX2_isEmpty 5 = .ok (.bipush 6, 2) := by decide +kernel
theorem dX2_isEmpty_7 : decode cX2_isEmpty 7 = .ok (.if_icmp .ge 23, 3) := by decide +kernel
theorem dX2_isEmpty_10 : decode cX2_isEmpty 10 = .ok (.iload_n 2, 1) := by decide +kernel
theorem dX2_isEmpty_11 : decode cX2_isEmpty 11 = .ok (.aload_n 0, 1) := by decide +kernel
theorem dX2_isEmpty_12 : decode cX2_isEmpty 12 = .ok (.getfield 54, 3) := by decide +kernel
theorem dX2_isEmpty_15 : decode cX2_isEmpty 15 = .ok (.bipush 6, 2) := by decide +kernel
theorem dX2_isEmpty_17 : decode cX2_isEmpty 17 = .ok (.iload_n 1, 1) := by decide +kernel
theorem dX2_isEmpty_18 : decode cX2_isEmpty 18 = .ok (.imul, 1) := by decide +kernel
theorem dX2_isEmpty_19 : decode cX2_isEmpty 19 = .ok (.iload_n 3, 1) := by decide +kernel
theorem dX2_isEmpty_20 : decode cX2_isEmpty 20 = .ok (.iadd, 1) := by decide +kernel
theorem dX2_isEmpty_21 : decode cX2_isEmpty 21 = .ok (.iaload, 1) := by decide +kernel
theorem dX2_isEmpty_22 : decode cX2_isEmpty 22 = .ok (.iadd, 1) := by decide +kernel
theorem dX2_isEmpty_23 : decode cX2_isEmpty 23 = .ok (.istore_n 2, 1) := by decide +kernel
theorem dX2_isEmpty_24 : decode cX2_isEmpty 24 = .ok (.iinc 3 1, 3) := by decide +kernel
theorem dX2_isEmpty_27 : decode cX2_isEmpty 27 = .ok (.goto (-23), 3) := by decide +kernel
theorem dX2_isEmpty_30 : decode cX2_isEmpty 30 = .ok (.iload_n 2, 1) := by decide +kernel
theorem dX2_isEmpty_31 : decode cX2_isEmpty 31 = .ok (.ifCond .ne 7, 3) := by decide +kernel
theorem dX2_isEmpty_34 : decode cX2_isEmpty 34 = .ok (.iconst 1, 1) := by decide +kernel
theorem dX2_isEmpty_35 : decode cX2_isEmpty 35 = .ok (.goto 4, 3) := by decide +kernel
theorem dX2_isEmpty_38 : decode cX2_isEmpty 38 = .ok (.iconst 0, 1) := by decide +kernel
theorem dX2_isEmpty_39 : decode cX2_isEmpty 39 = .ok (.ireturn, 1) := by decide +kernel
theorem dX2_arrive_0 : decode cX2_arrive 0 = .ok (.aload_n 0, 1) := by decide +kernel
theorem dX2_arrive_1 : decode cX2_arrive 1 = .ok (.iload_n 1, 1) := by decide +kernel
theorem dX2_arrive_2 : decode cX2_arrive 2 = .ok (.invokevirtual 90, 3) := by decide +kernel
theorem dX2_arrive_5 : decode cX2_arrive 5 = .ok (.istore_n 3, 1) := by decide +kernel
theorem dX2_arrive_6 : decode cX2_arrive 6 = .ok (.iload_n 3, 1) := by decide +kernel
theorem dX2_arrive_7 : decode cX2_arrive 7 = .ok (.ifCond .eq 24, 3) := by decide +kernel
theorem dX2_arrive_10 : decode cX2_arrive 10 = .ok (.aload_n 0, 1) := by decide +kernel
theorem dX2_arrive_11 : decode cX2_arrive 11 = .ok (.getfield 35, 3) := by decide +kernel
theorem dX2_arrive_14 : decode cX2_arrive 14 = .ok (.iload_n 1, 1) := by decide +kernel
theorem dX2_arrive_15 : decode cX2_arrive 15 = .ok (.iaload, 1) := by decide +kernel
theorem dX2_arrive_16 : decode cX2_arrive 16 = .ok (.ifCond .ne 15, 3) := by decide +kernel
theorem dX2_arrive_19 : decode cX2_arrive 19 = .ok (.aload_n 0, 1) := by decide +kernel
theorem dX2_arrive_20 : decode cX2_arrive 20 = .ok (.iload_n 1, 1) := by decide +kernel
theorem dX2_arrive_21 : decode cX2_arrive 21 = .ok (.invokevirtual 93, 3) := by decide +kernel
theorem dX2_arrive_24 : decode cX2_arrive 24 = .ok (.ifCond .ne 7, 3) := by decide +kernel
theorem dX2_arrive_27 : decode cX2_arrive 27 = .ok (.iconst 1, 1) := by decide +kernel
theorem dX2_arrive_28 : decode cX2_arrive 28 = .ok (.goto 4, 3) := by decide +kernel
theorem dX2_arrive_31 : decode cX2_arrive 31 = .ok (.iconst 0, 1) := by decide +kernel
theorem dX2_arrive_32 : decode cX2_arrive 32 = .ok (.istore 4, 2) := by decide +kernel
theorem dX2_arrive_34 : decode cX2_arrive 34 = .ok (.aload_n 0, 1) := by decide +kernel
theorem dX2_arrive_35 : decode cX2_arrive 35 = .ok (.iload_n 3, 1) := by decide +kernel
theorem dX2_arrive_36 : decode cX2_arrive 36 = .ok (.ifCond .ne 7, 3) := by decide +kernel
theorem dX2_arrive_39 : decode cX2_arrive 39 = .ok (.iconst 1, 1) := by decide +kernel
theorem dX2_arrive_40 : decode cX2_arrive 40 = .ok (.goto 28, 3) := by decide +kernel
theorem dX2_arrive_43 : decode cX2_arrive 43 = .ok (.iload_n 2, 1) := by decide +kernel
theorem dX2_arrive_44 : decode cX2_arrive 44 = .ok (.iconst 0, 1) := by decide +kernel
theorem dX2_arrive_45 : decode cX2_arrive 45 = .ok (.sipush 999, 3) := by decide +kernel
theorem dX2_arrive_48 : decode cX2_arrive 48 = .ok (.invokestatic 66, 3) := by decide +kernel
theorem dX2_arrive_51 : decode cX2_arrive 51 = .ok (.ifCond .ne 7, 3) := by decide +kernel
theorem dX2_arrive_54 : decode cX2_arrive 54 = .ok (.iconst 2, 1) := by decide +kernel
theorem dX2_arrive_55 : decode cX2_arrive 55 = .ok (.goto 13, 3) := by decide +kernel
theorem dX2_arrive_58 : decode cX2_arrive 58 = .ok (.iload 4, 2) := by decide +kernel
theorem dX2_arrive_60 : decode cX2_arrive 60 = .ok (.ifCond .ne 7, 3) := by decide +kernel
theorem dX2_arrive_63 : decode cX2_arrive 63 = .ok (.iconst 3, 1) := by decide +kernel
theorem dX2_arrive_64 : decode cX2_arrive 64 = .ok (.goto 4, 3) := by decide +kernel
theorem dX2_arrive_67 : decode cX2_arrive 67 = .ok (.iconst 0, 1) := by decide +kernel
theorem dX2_arrive_68 : decode cX2_arrive 68 = .ok (.invokevirtual 77, 3) := by decide +kernel
theorem dX2_arrive_71 : decode cX2_arrive 71 = .ok (.ifCond .ne 5, 3) := by decide +kernel
theorem dX2_arrive_74 : decode cX2_arrive 74 = .ok (.iconst 0, 1) := by decide +kernel
theorem dX2_arrive_75 : decode cX2_arrive 75 = .ok (.ireturn, 1) := by decide +kernel
theorem dX2_arrive_76 : decode cX2_arrive 76 = .ok (.aload_n 0, 1) := by decide +kernel
theorem dX2_arrive_77 : decode cX2_arrive 77 = .ok (.dup, 1) := by decide +kernel
theorem dX2_arrive_78 : decode cX2_arrive 78 = .ok (.getfield 96, 3) := by decide +kernel
theorem dX2_arrive_81 : decode cX2_arrive 81 = .ok (.iconst 1, 1) := by decide +kernel
theorem dX2_arrive_82 : decode cX2_arrive 82 = .ok (.iadd, 1) := by decide +kernel
theorem dX2_arrive_83 : decode cX2_arrive 83 = .ok (.putfield 96, 3) := by decide +kernel
theorem dX2_arrive_86 : decode cX2_arrive 86 = .ok (.aload_n 0, 1) := by decide +kernel
theorem dX2_arrive_87 : decode cX2_arrive 87 = .ok (.getfield 47, 3) := by decide +kernel
theorem dX2_arrive_90 : decode cX2_arrive 90 = .ok (.iload_n 1, 1) := by decide +kernel
theorem dX2_arrive_91 : decode cX2_arrive 91 = .ok (.aload_n 0, 1) := by decide +kernel
theorem dX2_arrive_92 : decode cX2_arrive 92 = .ok (.getfield 80, 3) := by decide +kernel
theorem dX2_arrive_95 : decode cX2_arrive 95 = .ok (.ifCond .le 19, 3) := by decide +kernel
theorem dX2_arrive_98 : decode cX2_arrive 98 = .ok (.aload_n 0, 1) := by decide +kernel
theorem dX2_arrive_99 : decode cX2_arrive 99 = .ok (.getfield 96, 3) := by decide +kernel
theorem dX2_arrive_102 : decode cX2_arrive 102 = .ok (.aload_n 0, 1) := by decide +kernel
theorem dX2_arrive_103 : decode cX2_arrive 103 = .ok (.getfield 80, 3) := by decide +kernel
theorem dX2_arrive_106 : decode cX2_arrive 106 = .ok (.irem, 1) := by decide +kernel
theorem dX2_arrive_107 : decode cX2_arrive 107 = .ok (.ifCond .ne 7, 3) := by decide +kernel
theorem dX2_arrive_110 : decode cX2_arrive 110 = .ok (.iconst 1, 1) := by decide +kernel
theorem dX2_arrive_111 : decode cX2_arrive 111 = .ok (.goto 4, 3) := by decide +kernel
theorem dX2_arrive_114 : decode cX2_arrive 114 = .ok (.iconst 0, 1) := by decide +kernel
theorem dX2_arrive_115 : decode cX2_arrive 115 = .ok (.bastore, 1) := by decide +kernel
theorem dX2_arrive_116 : decode cX2_arrive 116 = .ok (.aload_n 0, 1) := by decide +kernel
theorem dX2_arrive_117 : decode cX2_arrive 117 = .ok (.getfield 35, 3) := by decide +kernel
theorem dX2_arrive_120 : decode cX2_arrive 120 = .ok (.iload_n 1, 1) := by decide +kernel
theorem dX2_arrive_121 : decode cX2_arrive 121 = .ok (.iconst 1, 1) := by decide +kernel
theorem dX2_arrive_122 : decode cX2_arrive 122 = .ok (.iastore, 1) := by decide +kernel
theorem dX2_arrive_123 : decode cX2_arrive 123 = .ok (.aload_n 0, 1) := by decide +kernel
theorem dX2_arrive_124 : decode cX2_arrive 124 = .ok (.getfield 51, 3) := by decide +kernel
theorem dX2_arrive_127 : decode cX2_arrive 127 = .ok (.iload_n 1, 1) := by decide +kernel
theorem dX2_arrive_128 : decode cX2_arrive 128 = .ok (.aload_n 0, 1) := by decide +kernel
theorem dX2_arrive_129 : decode cX2_arrive 129 = .ok (.getfield 32, 3) := by decide +kernel
theorem dX2_arrive_132 : decode cX2_arrive 132 = .ok (.iload_n 1, 1) := by decide +kernel
theorem dX2_arrive_133 : decode cX2_arrive 133 = .ok (.iaload, 1) := by decide +kernel
theorem dX2_arrive_134 : decode cX2_arrive 134 = .ok (.iload_n 2, 1) := by decide +kernel
theorem dX2_arrive_135 : decode cX2_arrive 135 = .ok (.if_icmp .eq 7, 3) := by decide +kernel
theorem dX2_arrive_138 : decode cX2_arrive 138 = .ok (.iconst 1, 1) := by decide +kernel
theorem dX2_arrive_139 : decode cX2_arrive 139 = .ok (.goto 4, 3) := by decide +kernel
theorem dX2_arrive_142 : decode cX2_arrive 142 = .ok (.iconst 0, 1) := by decide +kernel
theorem dX2_arrive_143 : decode cX2_arrive 143 = .ok (.bastore, 1) := by decide +kernel
theorem dX2_arrive_144 : decode cX2_arrive 144 = .ok (.aload_n 0, 1) := by decide +kernel
theorem dX2_arrive_145 : decode cX2_arrive 145 = .ok (.iload_n 1, 1) := by decide +kernel
theorem dX2_arrive_146 : decode cX2_arrive 146 = .ok (.invokevirtual 83, 3) := by decide +kernel
theorem dX2_arrive_149 : decode cX2_arrive 149 = .ok (.ireturn, 1) := by decide +kernel
theorem dX2_riskNow_0 : decode cX2_riskNow 0 = .ok (.iconst 2, 1) := by decide +kernel
theorem dX2_riskNow_1 : decode cX2_riskNow 1 = .ok (.aload_n 0, 1) := by decide +kernel
theorem dX2_riskNow_2 : decode cX2_riskNow 2 = .ok (.getfield 38, 3) := by decide +kernel
theorem dX2_riskNow_5 : decode cX2_riskNow 5 = .ok (.iload_n 1, 1) := by decide +kernel
theorem dX2_riskNow_6 : decode cX2_riskNow 6 = .ok (.iaload, 1) := by decide +kernel
theorem dX2_riskNow_7 : decode cX2_riskNow 7 = .ok (.iconst 1, 1) := by decide +kernel
theorem dX2_riskNow_8 : decode cX2_riskNow 8 = .ok (.isub, 1) := by decide +kernel
theorem dX2_riskNow_9 : decode cX2_riskNow 9 = .ok (.imul, 1) := by decide +kernel
theorem dX2_riskNow_10 : decode cX2_riskNow 10 = .ok (.aload_n 0, 1) := by decide +kernel
theorem dX2_riskNow_11 : decode cX2_riskNow 11 = .ok (.getfield 51, 3) := by decide +kernel
theorem dX2_riskNow_14 : decode cX2_riskNow 14 = .ok (.iload_n 1, 1) := by decide +kernel
theorem dX2_riskNow_15 : decode cX2_riskNow 15 = .ok (.baload, 1) := by decide +kernel
theorem dX2_riskNow_16 : decode cX2_riskNow 16 = .ok (.ifCond .eq 8, 3) := by decide +kernel
theorem dX2_riskNow_19 : decode cX2_riskNow 19 = .ok (.bipush 30, 2) := by decide +kernel
theorem dX2_riskNow_21 : decode cX2_riskNow 21 = .ok (.goto 4, 3) := by decide +kernel
theorem dX2_riskNow_24 : decode cX2_riskNow 24 = .ok (.iconst 0, 1) := by decide +kernel
theorem dX2_riskNow_25 : decode cX2_riskNow 25 = .ok (.iadd, 1) := by decide +kernel
theorem dX2_riskNow_26 : decode cX2_riskNow 26 = .ok (.istore_n 2, 1) := by decide +kernel
theorem dX2_riskNow_27 : decode cX2_riskNow 27 = .ok (.iconst 0, 1) := by decide +kernel
theorem dX2_riskNow_28 : decode cX2_riskNow 28 = .ok (.istore_n 3, 1) := by decide +kernel
theorem dX2_riskNow_29 : decode cX2_riskNow 29 = .ok (.iload_n 3, 1) := by decide +kernel
theorem dX2_riskNow_30 : decode cX2_riskNow 30 = .ok (.bipush 6, 2) := by decide +kernel
theorem dX2_riskNow_32 : decode cX2_riskNow 32 = .ok (.if_icmp .ge 36, 3) := by decide +kernel
theorem dX2_riskNow_35 : decode cX2_riskNow 35 = .ok (.iload_n 2, 1) := by decide +kernel
theorem dX2_riskNow_36 : decode cX2_riskNow 36 = .ok (.aload_n 0, 1) := by decide +kernel
theorem dX2_riskNow_37 : decode cX2_riskNow 37 = .ok (.getfield 54, 3) := by decide +kernel
theorem dX2_riskNow_40 : decode cX2_riskNow 40 = .ok (.bipush 6, 2) := by decide +kernel
theorem dX2_riskNow_42 : decode cX2_riskNow 42 = .ok (.iload_n 1, 1) := by decide +kernel
theorem dX2_riskNow_43 : decode cX2_riskNow 43 = .ok (.imul, 1) := by decide +kernel
theorem dX2_riskNow_44 : decode cX2_riskNow 44 = .ok (.iload_n 3, 1) := by decide +kernel
theorem dX2_riskNow_45 : decode cX2_riskNow 45 = .ok (.iadd, 1) := by decide +kernel
theorem dX2_riskNow_46 : decode cX2_riskNow 46 = .ok (.iaload, 1) := by decide +kernel
theorem dX2_riskNow_47 : decode cX2_riskNow 47 = .ok (.ifCond .le 12, 3) := by decide +kernel
theorem dX2_riskNow_50 : decode cX2_riskNow 50 = .ok (.aload_n 0, 1) := by decide +kernel
theorem dX2_riskNow_51 : decode cX2_riskNow 51 = .ok (.getfield 13, 3) := by decide +kernel
theorem dX2_riskNow_54 : decode cX2_riskNow 54 = .ok (.iload_n 3, 1) := by decide +kernel
theorem dX2_riskNow_55 : decode cX2_riskNow 55 = .ok (.iaload, 1) := by decide +kernel
theorem dX2_riskNow_56 : decode cX2_riskNow 56 = .ok (.goto 4, 3) := by decide +kernel
theorem dX2_riskNow_59 : decode cX2_riskNow 59 = .ok (.iconst 0, 1) := by decide +kernel
theorem dX2_riskNow_60 : decode cX2_riskNow 60 = .ok (.iadd, 1) := by decide +kernel
theorem dX2_riskNow_61 : decode cX2_riskNow 61 = .ok (.istore_n 2, 1) := by decide +kernel
theorem dX2_riskNow_62 : decode cX2_riskNow 62 = .ok (.iinc 3 1, 3) := by decide +kernel
theorem dX2_riskNow_65 : decode cX2_riskNow 65 = .ok (.goto (-36), 3) := by decide +kernel
theorem dX2_riskNow_68 : decode cX2_riskNow 68 = .ok (.iload_n 2, 1) := by decide +kernel
theorem dX2_riskNow_69 : decode cX2_riskNow 69 = .ok (.ireturn, 1) := by decide +kernel
theorem dX2_mustNow_0 : decode cX2_mustNow 0 = .ok (.aload_n 0, 1) := by decide +kernel
theorem dX2_mustNow_1 : decode cX2_mustNow 1 = .ok (.getfield 35, 3) := by decide +kernel
theorem dX2_mustNow_4 : decode cX2_mustNow 4 = .ok (.iload_n 1, 1) := by decide +kernel
theorem dX2_mustNow_5 : decode cX2_mustNow 5 = .ok (.iaload, 1) := by decide +kernel
theorem dX2_mustNow_6 : decode cX2_mustNow 6 = .ok (.iconst 1, 1) := by decide +kernel
theorem dX2_mustNow_7 : decode cX2_mustNow 7 = .ok (.if_icmp .ne 39, 3) := by decide +kernel
theorem dX2_mustNow_10 : decode cX2_mustNow 10 = .ok (.aload_n 0, 1) := by decide +kernel
theorem dX2_mustNow_11 : decode cX2_mustNow 11 = .ok (.getfield 44, 3) := by decide +kernel
theorem dX2_mustNow_14 : decode cX2_mustNow 14 = .ok (.iload_n 1, 1) := by decide +kernel
theorem dX2_mustNow_15 : decode cX2_mustNow 15 = .ok (.iaload, 1) := by decide +kernel
theorem dX2_mustNow_16 : decode cX2_mustNow 16 = .ok (.bipush 63, 2) := by decide +kernel
theorem dX2_mustNow_18 : decode cX2_mustNow 18 = .ok (.if_icmp .eq 28, 3) := by decide +kernel
theorem dX2_mustNow_21 : decode cX2_mustNow 21 = .ok (.aload_n 0, 1) := by decide +kernel
theorem dX2_mustNow_22 : decode cX2_mustNow 22 = .ok (.getfield 47, 3) := by decide +kernel
theorem dX2_mustNow_25 : decode cX2_mustNow 25 = .ok (.iload_n 1, 1) := by decide +kernel
theorem dX2_mustNow_26 : decode cX2_mustNow 26 = .ok (.baload, 1) := by decide +kernel
theorem dX2_mustNow_27 : decode cX2_mustNow 27 = .ok (.ifCond .ne 15, 3) := by decide +kernel
theorem dX2_mustNow_30 : decode cX2_mustNow 30 = .ok (.aload_n 0, 1) := by decide +kernel
theorem dX2_mustNow_31 : decode cX2_mustNow 31 = .ok (.iload_n 1, 1) := by decide +kernel
theorem dX2_mustNow_32 : decode cX2_mustNow 32 = .ok (.invokevirtual 99, 3) := by decide +kernel
theorem dX2_mustNow_35 : decode cX2_mustNow 35 = .ok (.aload_n 0, 1) := by decide +kernel
theorem dX2_mustNow_36 : decode cX2_mustNow 36 = .ok (.getfield 16, 3) := by decide +kernel
theorem dX2_mustNow_39 : decode cX2_mustNow 39 = .ok (.if_icmp .lt 7, 3) := by decide +kernel
theorem dX2_mustNow_42 : decode cX2_mustNow 42 = .ok (.iconst 1, 1) := by decide +kernel
theorem dX2_mustNow_43 : decode cX2_mustNow 43 = .ok (.goto 4, 3) := by decide +kernel
theorem dX2_mustNow_46 : decode cX2_mustNow 46 = .ok (.iconst 0, 1) := by decide +kernel
theorem dX2_mustNow_47 : decode cX2_mustNow 47 = .ok (.ireturn, 1) := by decide +kernel
theorem dX2_risk_0 : decode cX2_risk 0 = .ok (.aload_n 0, 1) := by decide +kernel
theorem dX2_risk_1 : decode cX2_risk 1 = .ok (.iload_n 1, 1) := by decide +kernel
theorem dX2_risk_2 : decode cX2_risk 2 = .ok (.invokevirtual 90, 3) := by decide +kernel
theorem dX2_risk_5 : decode cX2_risk 5 = .ok (.istore_n 2, 1) := by decide +kernel
theorem dX2_risk_6 : decode cX2_risk 6 = .ok (.aload_n 0, 1) := by decide +kernel
theorem dX2_risk_7 : decode cX2_risk 7 = .ok (.iload_n 2, 1) := by decide +kernel
theorem dX2_risk_8 : decode cX2_risk 8 = .ok (.ifCond .ne 7, 3) := by decide +kernel
theorem dX2_risk_11 : decode cX2_risk 11 = .ok (.iconst 1, 1) := by decide +kernel
theorem dX2_risk_12 : decode cX2_risk 12 = .ok (.goto 17, 3) := by decide +kernel
theorem dX2_risk_15 : decode cX2_risk 15 = .ok (.aload_n 0, 1) := by decide +kernel
theorem dX2_risk_16 : decode cX2_risk 16 = .ok (.getfield 35, 3) := by decide +kernel
theorem dX2_risk_19 : decode cX2_risk 19 = .ok (.iload_n 1, 1) := by decide +kernel
theorem dX2_risk_20 : decode cX2_risk 20 = .ok (.iaload, 1) := by decide +kernel
theorem dX2_risk_21 : decode cX2_risk 21 = .ok (.ifCond .ne 7, 3) := by decide +kernel
theorem dX2_risk_24 : decode cX2_risk 24 = .ok (.iconst 2, 1) := by decide +kernel
theorem dX2_risk_25 : decode cX2_risk 25 = .ok (.goto 4, 3) := by decide +kernel
theorem dX2_risk_28 : decode cX2_risk 28 = .ok (.iconst 0, 1) := by decide +kernel
theorem dX2_risk_29 : decode cX2_risk 29 = .ok (.invokevirtual 77, 3) := by decide +kernel
theorem dX2_risk_32 : decode cX2_risk 32 = .ok (.ifCond .eq 11, 3) := by decide +kernel
theorem dX2_risk_35 : decode cX2_risk 35 = .ok (.aload_n 0, 1) := by decide +kernel
theorem dX2_risk_36 : decode cX2_risk 36 = .ok (.iload_n 1, 1) := by decide +kernel
theorem dX2_risk_37 : decode cX2_risk 37 = .ok (.invokevirtual 99, 3) := by decide +kernel
theorem dX2_risk_40 : decode cX2_risk 40 = .ok (.goto 4, 3) := by decide +kernel
theorem dX2_risk_43 : decode cX2_risk 43 = .ok (.iconst 0, 1) := by decide +kernel
theorem dX2_risk_44 : decode cX2_risk 44 = .ok (.ireturn, 1) := by decide +kernel
theorem dX2_mustSearch_0 : decode cX2_mustSearch 0 = .ok (.aload_n 0, 1) := by decide +kernel
theorem dX2_mustSearch_1 : decode cX2_mustSearch 1 = .ok (.aload_n 0, 1) := by decide +kernel
theorem dX2_mustSearch_2 : decode cX2_mustSearch 2 = .ok (.iload_n 1, 1) := by decide +kernel
theorem dX2_mustSearch_3 : decode cX2_mustSearch 3 = .ok (.invokevirtual 90, 3) := by decide +kernel
theorem dX2_mustSearch_6 : decode cX2_mustSearch 6 = .ok (.ifCond .eq 7, 3) := by decide +kernel
theorem dX2_mustSearch_9 : decode cX2_mustSearch 9 = .ok (.iconst 0, 1) := by decide +kernel
theorem dX2_mustSearch_10 : decode cX2_mustSearch 10 = .ok (.goto 4, 3) := by decide +kernel
theorem dX2_mustSearch_13 : decode cX2_mustSearch 13 = .ok (.iconst 1, 1) := by decide +kernel
theorem dX2_mustSearch_14 : decode cX2_mustSearch 14 = .ok (.invokevirtual 77, 3) := by decide +kernel
theorem dX2_mustSearch_17 : decode cX2_mustSearch 17 = .ok (.ifCond .eq 15, 3) := by decide +kernel
theorem dX2_mustSearch_20 : decode cX2_mustSearch 20 = .ok (.aload_n 0, 1) := by decide +kernel
theorem dX2_mustSearch_21 : decode cX2_mustSearch 21 = .ok (.iload_n 1, 1) := by decide +kernel
theorem dX2_mustSearch_22 : decode cX2_mustSearch 22 = .ok (.invokevirtual 83, 3) := by decide +kernel
theorem dX2_mustSearch_25 : decode cX2_mustSearch 25 = .ok (.ifCond .eq 7, 3) := by decide +kernel
theorem dX2_mustSearch_28 : decode cX2_mustSearch 28 = .ok (.iconst 1, 1) := by decide +kernel
theorem dX2_mustSearch_29 : decode cX2_mustSearch 29 = .ok (.goto 4, 3) := by decide +kernel
theorem dX2_mustSearch_32 : decode cX2_mustSearch 32 = .ok (.iconst 0, 1) := by decide +kernel
theorem dX2_mustSearch_33 : decode cX2_mustSearch 33 = .ok (.ireturn, 1) := by decide +kernel
theorem dX2_search_0 : decode cX2_search 0 = .ok (.aload_n 0, 1) := by decide +kernel
theorem dX2_search_1 : decode cX2_search 1 = .ok (.iload_n 1, 1) := by decide +kernel
theorem dX2_search_2 : decode cX2_search 2 = .ok (.invokevirtual 90, 3) := by decide +kernel
theorem dX2_search_5 : decode cX2_search 5 = .ok (.istore 4, 2) := by decide +kernel
theorem dX2_search_7 : decode cX2_search 7 = .ok (.iload_n 2, 1) := by decide +kernel
theorem dX2_search_8 : decode cX2_search 8 = .ok (.invokestatic 73, 3) := by decide +kernel
theorem dX2_search_11 : decode cX2_search 11 = .ok (.ifCond .eq 17, 3) := by decide +kernel
theorem dX2_search_14 : decode cX2_search 14 = .ok (.iload_n 3, 1) := by decide +kernel
theorem dX2_search_15 : decode cX2_search 15 = .ok (.iconst 0, 1) := by decide +kernel
theorem dX2_search_16 : decode cX2_search 16 = .ok (.bipush 100, 2) := by decide +kernel
theorem dX2_search_18 : decode cX2_search 18 = .ok (.invokestatic 66, 3) := by decide +kernel
theorem dX2_search_21 : decode cX2_search 21 = .ok (.ifCond .eq 7, 3) := by decide +kernel
theorem dX2_search_24 : decode cX2_search 24 = .ok (.iconst 1, 1) := by decide +kernel
theorem dX2_search_25 : decode cX2_search 25 = .ok (.goto 4, 3) := by decide +kernel
theorem dX2_search_28 : decode cX2_search 28 = .ok (.iconst 0, 1) := by decide +kernel
theorem dX2_search_29 : decode cX2_search 29 = .ok (.istore 5, 2) := by decide +kernel
theorem dX2_search_31 : decode cX2_search 31 = .ok (.aload_n 0, 1) := by decide +kernel
theorem dX2_search_32 : decode cX2_search 32 = .ok (.iload 4, 2) := by decide +kernel
theorem dX2_search_34 : decode cX2_search 34 = .ok (.ifCond .ne 7, 3) := by decide +kernel
theorem dX2_search_37 : decode cX2_search 37 = .ok (.iconst 1, 1) := by decide +kernel
theorem dX2_search_38 : decode cX2_search 38 = .ok (.goto 27, 3) := by decide +kernel
theorem dX2_search_41 : decode cX2_search 41 = .ok (.iload 5, 2) := by decide +kernel
theorem dX2_search_43 : decode cX2_search 43 = .ok (.ifCond .ne 7, 3) := by decide +kernel
theorem dX2_search_46 : decode cX2_search 46 = .ok (.iconst 2, 1) := by decide +kernel
theorem dX2_search_47 : decode cX2_search 47 = .ok (.goto 18, 3) := by decide +kernel
theorem dX2_search_50 : decode cX2_search 50 = .ok (.aload_n 0, 1) := by decide +kernel
theorem dX2_search_51 : decode cX2_search 51 = .ok (.getfield 35, 3) := by decide +kernel
theorem dX2_search_54 : decode cX2_search 54 = .ok (.iload_n 1, 1) := by decide +kernel
theorem dX2_search_55 : decode cX2_search 55 = .ok (.iaload, 1) := by decide +kernel
theorem dX2_search_56 : decode cX2_search 56 = .ok (.iconst 1, 1) := by decide +kernel
theorem dX2_search_57 : decode cX2_search 57 = .ok (.if_icmp .eq 7, 3) := by decide +kernel
theorem dX2_search_60 : decode cX2_search 60 = .ok (.iconst 3, 1) := by decide +kernel
theorem dX2_search_61 : decode cX2_search 61 = .ok (.goto 4, 3) := by decide +kernel
theorem dX2_search_64 : decode cX2_search 64 = .ok (.iconst 0, 1) := by decide +kernel
theorem dX2_search_65 : decode cX2_search 65 = .ok (.invokevirtual 77, 3) := by decide +kernel
theorem dX2_search_68 : decode cX2_search 68 = .ok (.ifCond .ne 5, 3) := by decide +kernel
theorem dX2_search_71 : decode cX2_search 71 = .ok (.iconst 0, 1) := by decide +kernel
theorem dX2_search_72 : decode cX2_search 72 = .ok (.ireturn, 1) := by decide +kernel
theorem dX2_search_73 : decode cX2_search 73 = .ok (.aload_n 0, 1) := by decide +kernel
theorem dX2_search_74 : decode cX2_search 74 = .ok (.getfield 44, 3) := by decide +kernel
theorem dX2_search_77 : decode cX2_search 77 = .ok (.iload_n 1, 1) := by decide +kernel
theorem dX2_search_78 : decode cX2_search 78 = .ok (.dup2, 1) := by decide +kernel
theorem dX2_search_79 : decode cX2_search 79 = .ok (.iaload, 1) := by decide +kernel
theorem dX2_search_80 : decode cX2_search 80 = .ok (.iconst 1, 1) := by decide +kernel
theorem dX2_search_81 : decode cX2_search 81 = .ok (.iload_n 2, 1) := by decide +kernel
theorem dX2_search_82 : decode cX2_search 82 = .ok (.ishl, 1) := by decide +kernel
theorem dX2_search_83 : decode cX2_search 83 = .ok (.ior, 1) := by decide +kernel
theorem dX2_search_84 : decode cX2_search 84 = .ok (.iastore, 1) := by decide +kernel
theorem dX2_search_85 : decode cX2_search 85 = .ok (.aload_n 0, 1) := by decide +kernel
theorem dX2_search_86 : decode cX2_search 86 = .ok (.getfield 41, 3) := by decide +kernel
theorem dX2_search_89 : decode cX2_search 89 = .ok (.iload_n 1, 1) := by decide +kernel
theorem dX2_search_90 : decode cX2_search 90 = .ok (.dup2, 1) := by decide +kernel
theorem dX2_search_91 : decode cX2_search 91 = .ok (.iaload, 1) := by decide +kernel
theorem dX2_search_92 : decode cX2_search 92 = .ok (.aload_n 0, 1) := by decide +kernel
theorem dX2_search_93 : decode cX2_search 93 = .ok (.getfield 54, 3) := by decide +kernel
theorem dX2_search_96 : decode cX2_search 96 = .ok (.bipush 6, 2) := by decide +kernel
theorem dX2_search_98 : decode cX2_search 98 = .ok (.iload_n 1, 1) := by decide +kernel
theorem dX2_search_99 : decode cX2_search 99 = .ok (.imul, 1) := by decide +kernel
theorem dX2_search_100 : decode cX2_search 100 = .ok (.iload_n 2, 1) := by decide +kernel
theorem dX2_search_101 : decode cX2_search 101 = .ok (.iadd, 1) := by decide +kernel
theorem dX2_search_102 : decode cX2_search 102 = .ok (.iaload, 1) := by decide +kernel
theorem dX2_search_103 : decode cX2_search 103 = .ok (.iload_n 3, 1) := by decide +kernel
theorem dX2_search_104 : decode cX2_search 104 = .ok (.if_icmp .eq 7, 3) := by decide +kernel
theorem dX2_search_107 : decode cX2_search 107 = .ok (.iconst 1, 1) := by decide +kernel
theorem dX2_search_108 : decode cX2_search 108 = .ok (.goto 4, 3) := by decide +kernel
theorem dX2_search_111 : decode cX2_search 111 = .ok (.iconst 0, 1) := by decide +kernel
theorem dX2_search_112 : decode cX2_search 112 = .ok (.iadd, 1) := by decide +kernel
theorem dX2_search_113 : decode cX2_search 113 = .ok (.iastore, 1) := by decide +kernel
theorem dX2_search_114 : decode cX2_search 114 = .ok (.aload_n 0, 1) := by decide +kernel
theorem dX2_search_115 : decode cX2_search 115 = .ok (.getfield 54, 3) := by decide +kernel
theorem dX2_search_118 : decode cX2_search 118 = .ok (.bipush 6, 2) := by decide +kernel
theorem dX2_search_120 : decode cX2_search 120 = .ok (.iload_n 1, 1) := by decide +kernel
theorem dX2_search_121 : decode cX2_search 121 = .ok (.imul, 1) := by decide +kernel
theorem dX2_search_122 : decode cX2_search 122 = .ok (.iload_n 2, 1) := by decide +kernel
theorem dX2_search_123 : decode cX2_search 123 = .ok (.iadd, 1) := by decide +kernel
theorem dX2_search_124 : decode cX2_search 124 = .ok (.iload_n 3, 1) := by decide +kernel
theorem dX2_search_125 : decode cX2_search 125 = .ok (.iastore, 1) := by decide +kernel
theorem dX2_search_126 : decode cX2_search 126 = .ok (.aload_n 0, 1) := by decide +kernel
theorem dX2_search_127 : decode cX2_search 127 = .ok (.getfield 41, 3) := by decide +kernel
theorem dX2_search_130 : decode cX2_search 130 = .ok (.iload_n 1, 1) := by decide +kernel
theorem dX2_search_131 : decode cX2_search 131 = .ok (.iaload, 1) := by decide +kernel
theorem dX2_search_132 : decode cX2_search 132 = .ok (.ireturn, 1) := by decide +kernel
theorem dX2_owes_0 : decode cX2_owes 0 = .ok (.iconst 0, 1) := by decide +kernel
theorem dX2_owes_1 : decode cX2_owes 1 = .ok (.istore_n 2, 1) := by decide +kernel
theorem dX2_owes_2 : decode cX2_owes 2 = .ok (.iconst 0, 1) := by decide +kernel
theorem dX2_owes_3 : decode cX2_owes 3 = .ok (.istore_n 3, 1) := by decide +kernel
theorem dX2_owes_4 : decode cX2_owes 4 = .ok (.iload_n 3, 1) := by decide +kernel
theorem dX2_owes_5 : decode cX2_owes 5 = .ok (.bipush 6, 2) := by decide +kernel
theorem dX2_owes_7 : decode cX2_owes 7 = .ok (.if_icmp .ge 30, 3) := by decide +kernel
theorem dX2_owes_10 : decode cX2_owes 10 = .ok (.iload_n 2, 1) := by decide +kernel
theorem dX2_owes_11 : decode cX2_owes 11 = .ok (.aload_n 0, 1) := by decide +kernel
theorem dX2_owes_12 : decode cX2_owes 12 = .ok (.getfield 54, 3) := by decide +kernel
theorem dX2_owes_15 : decode cX2_owes 15 = .ok (.bipush 6, 2) := by decide +kernel
theorem dX2_owes_17 : decode cX2_owes 17 = .ok (.iload_n 1, 1) := by decide +kernel
theorem dX2_owes_18 : decode cX2_owes 18 = .ok (.imul, 1) := by decide +kernel
theorem dX2_owes_19 : decode cX2_owes 19 = .ok (.iload_n 3, 1) := by decide +kernel
theorem dX2_owes_20 : decode cX2_owes 20 = .ok (.iadd, 1) := by decide +kernel
theorem dX2_owes_21 : decode cX2_owes 21 = .ok (.iaload, 1) := by decide +kernel
theorem dX2_owes_22 : decode cX2_owes 22 = .ok (.aload_n 0, 1) := by decide +kernel
theorem dX2_owes_23 : decode cX2_owes 23 = .ok (.getfield 7, 3) := by decide +kernel
theorem dX2_owes_26 : decode cX2_owes 26 = .ok (.iload_n 3, 1) := by decide +kernel
theorem dX2_owes_27 : decode cX2_owes 27 = .ok (.iaload, 1) := by decide +kernel
theorem dX2_owes_28 : decode cX2_owes 28 = .ok (.imul, 1) := by decide +kernel
theorem dX2_owes_29 : decode cX2_owes 29 = .ok (.iadd, 1) := by decide +kernel
theorem dX2_owes_30 : decode cX2_owes 30 = .ok (.istore_n 2, 1) := by decide +kernel
theorem dX2_owes_31 : decode cX2_owes 31 = .ok (.iinc 3 1, 3) := by decide +kernel
theorem dX2_owes_34 : decode cX2_owes 34 = .ok (.goto (-30), 3) := by decide +kernel
theorem dX2_owes_37 : decode cX2_owes 37 = .ok (.iload_n 2, 1) := by decide +kernel
theorem dX2_owes_38 : decode cX2_owes 38 = .ok (.ireturn, 1) := by decide +kernel
theorem dX2_bond_0 : decode cX2_bond 0 = .ok (.aload_n 0, 1) := by decide +kernel
theorem dX2_bond_1 : decode cX2_bond 1 = .ok (.iload_n 1, 1) := by decide +kernel
theorem dX2_bond_2 : decode cX2_bond 2 = .ok (.invokevirtual 90, 3) := by decide +kernel
theorem dX2_bond_5 : decode cX2_bond 5 = .ok (.istore_n 3, 1) := by decide +kernel
theorem dX2_bond_6 : decode cX2_bond 6 = .ok (.iload_n 3, 1) := by decide +kernel
theorem dX2_bond_7 : decode cX2_bond 7 = .ok (.ifCond .eq 12, 3) := by decide +kernel
theorem dX2_bond_10 : decode cX2_bond 10 = .ok (.aload_n 0, 1) := by decide +kernel
theorem dX2_bond_11 : decode cX2_bond 11 = .ok (.getfield 29, 3) := by decide +kernel
theorem dX2_bond_14 : decode cX2_bond 14 = .ok (.iload_n 1, 1) := by decide +kernel
theorem dX2_bond_15 : decode cX2_bond 15 = .ok (.iaload, 1) := by decide +kernel
theorem dX2_bond_16 : decode cX2_bond 16 = .ok (.goto 4, 3) := by decide +kernel
theorem dX2_bond_19 : decode cX2_bond 19 = .ok (.iconst 0, 1) := by decide +kernel
theorem dX2_bond_20 : decode cX2_bond 20 = .ok (.istore 4, 2) := by decide +kernel
theorem dX2_bond_22 : decode cX2_bond 22 = .ok (.iload_n 3, 1) := by decide +kernel
theorem dX2_bond_23 : decode cX2_bond 23 = .ok (.ifCond .eq 48, 3) := by decide +kernel
theorem dX2_bond_26 : decode cX2_bond 26 = .ok (.aload_n 0, 1) := by decide +kernel
theorem dX2_bond_27 : decode cX2_bond 27 = .ok (.getfield 35, 3) := by decide +kernel
theorem dX2_bond_30 : decode cX2_bond 30 = .ok (.iload_n 1, 1) := by decide +kernel
theorem dX2_bond_31 : decode cX2_bond 31 = .ok (.iaload, 1) := by decide +kernel
theorem dX2_bond_32 : decode cX2_bond 32 = .ok (.iconst 1, 1) := by decide +kernel
theorem dX2_bond_33 : decode cX2_bond 33 = .ok (.if_icmp .ne 38, 3) := by decide +kernel
theorem dX2_bond_36 : decode cX2_bond 36 = .ok (.aload_n 0, 1) := by decide +kernel
theorem dX2_bond_37 : decode cX2_bond 37 = .ok (.iload_n 1, 1) := by decide +kernel
theorem dX2_bond_38 : decode cX2_bond 38 = .ok (.invokevirtual 83, 3) := by decide +kernel
theorem dX2_bond_41 : decode cX2_bond 41 = .ok (.ifCond .ne 30, 3) := by decide +kernel
theorem dX2_bond_44 : decode cX2_bond 44 = .ok (.aload_n 0, 1) := by decide +kernel
theorem dX2_bond_45 : decode cX2_bond 45 = .ok (.getfield 23, 3) := by decide +kernel
theorem dX2_bond_48 : decode cX2_bond 48 = .ok (.iload 4, 2) := by decide +kernel
theorem dX2_bond_50 : decode cX2_bond 50 = .ok (.iaload, 1) := by decide +kernel
theorem dX2_bond_51 : decode cX2_bond 51 = .ok (.aload_n 0, 1) := by decide +kernel
theorem dX2_bond_52 : decode cX2_bond 52 = .ok (.iload_n 1, 1) := by decide +kernel
theorem dX2_bond_53 : decode cX2_bond 53 = .ok (.invokevirtual 103, 3) := by decide +kernel
theorem dX2_bond_56 : decode cX2_bond 56 = .ok (.iadd, 1) := by decide +kernel
theorem dX2_bond_57 : decode cX2_bond 57 = .ok (.aload_n 0, 1) := by decide +kernel
theorem dX2_bond_58 : decode cX2_bond 58 = .ok (.getfield 20, 3) := by decide +kernel
theorem dX2_bond_61 : decode cX2_bond 61 = .ok (.iload 4, 2) := by decide +kernel
theorem dX2_bond_63 : decode cX2_bond 63 = .ok (.iaload, 1) := by decide +kernel
theorem dX2_bond_64 : decode cX2_bond 64 = .ok (.if_icmp .gt 7, 3) := by decide +kernel
theorem dX2_bond_67 : decode cX2_bond 67 = .ok (.iconst 1, 1) := by decide +kernel
theorem dX2_bond_68 : decode cX2_bond 68 = .ok (.goto 4, 3) := by decide +kernel
theorem dX2_bond_71 : decode cX2_bond 71 = .ok (.iconst 0, 1) := by decide +kernel
theorem dX2_bond_72 : decode cX2_bond 72 = .ok (.istore 5, 2) := by decide +kernel
theorem dX2_bond_74 : decode cX2_bond 74 = .ok (.aload_n 0, 1) := by decide +kernel
theorem dX2_bond_75 : decode cX2_bond 75 = .ok (.iload_n 3, 1) := by decide +kernel
theorem dX2_bond_76 : decode cX2_bond 76 = .ok (.ifCond .ne 7, 3) := by decide +kernel
theorem dX2_bond_79 : decode cX2_bond 79 = .ok (.iconst 1, 1) := by decide +kernel
theorem dX2_bond_80 : decode cX2_bond 80 = .ok (.goto 24, 3) := by decide +kernel
theorem dX2_bond_83 : decode cX2_bond 83 = .ok (.iload_n 2, 1) := by decide +kernel
theorem dX2_bond_84 : decode cX2_bond 84 = .ok (.invokestatic 106, 3) := by decide +kernel
theorem dX2_bond_87 : decode cX2_bond 87 = .ok (.ifCond .ne 7, 3) := by decide +kernel
theorem dX2_bond_90 : decode cX2_bond 90 = .ok (.iconst 2, 1) := by decide +kernel
theorem dX2_bond_91 : decode cX2_bond 91 = .ok (.goto 13, 3) := by decide +kernel
theorem dX2_bond_94 : decode cX2_bond 94 = .ok (.iload 5, 2) := by decide +kernel
theorem dX2_bond_96 : decode cX2_bond 96 = .ok (.ifCond .ne 7, 3) := by decide +kernel
theorem dX2_bond_99 : decode cX2_bond 99 = .ok (.iconst 3, 1) := by decide +kernel
theorem dX2_bond_100 : decode cX2_bond 100 = .ok (.goto 4, 3) := by decide +kernel
theorem dX2_bond_103 : decode cX2_bond 103 = .ok (.iconst 0, 1) := by decide +kernel
theorem dX2_bond_104 : decode cX2_bond 104 = .ok (.invokevirtual 77, 3) := by decide +kernel
theorem dX2_bond_107 : decode cX2_bond 107 = .ok (.ifCond .ne 5, 3) := by decide +kernel
theorem dX2_bond_110 : decode cX2_bond 110 = .ok (.iconst 0, 1) := by decide +kernel
theorem dX2_bond_111 : decode cX2_bond 111 = .ok (.ireturn, 1) := by decide +kernel
theorem dX2_bond_112 : decode cX2_bond 112 = .ok (.aload_n 0, 1) := by decide +kernel
theorem dX2_bond_113 : decode cX2_bond 113 = .ok (.getfield 35, 3) := by decide +kernel
theorem dX2_bond_116 : decode cX2_bond 116 = .ok (.iload_n 1, 1) := by decide +kernel
theorem dX2_bond_117 : decode cX2_bond 117 = .ok (.aload_n 0, 1) := by decide +kernel
theorem dX2_bond_118 : decode cX2_bond 118 = .ok (.iload_n 1, 1) := by decide +kernel
theorem dX2_bond_119 : decode cX2_bond 119 = .ok (.invokevirtual 93, 3) := by decide +kernel
theorem dX2_bond_122 : decode cX2_bond 122 = .ok (.ifCond .eq 7, 3) := by decide +kernel
theorem dX2_bond_125 : decode cX2_bond 125 = .ok (.iconst 3, 1) := by decide +kernel
theorem dX2_bond_126 : decode cX2_bond 126 = .ok (.goto 4, 3) := by decide +kernel
theorem dX2_bond_129 : decode cX2_bond 129 = .ok (.iconst 2, 1) := by decide +kernel
theorem dX2_bond_130 : decode cX2_bond 130 = .ok (.iastore, 1) := by decide +kernel
theorem dX2_bond_131 : decode cX2_bond 131 = .ok (.iconst 0, 1) := by decide +kernel
theorem dX2_bond_132 : decode cX2_bond 132 = .ok (.istore 6, 2) := by decide +kernel
theorem dX2_bond_134 : decode cX2_bond 134 = .ok (.iload 6, 2) := by decide +kernel
theorem dX2_bond_136 : decode cX2_bond 136 = .ok (.bipush 6, 2) := by decide +kernel
theorem dX2_bond_138 : decode cX2_bond 138 = .ok (.if_icmp .ge 52, 3) := by decide +kernel
theorem dX2_bond_141 : decode cX2_bond 141 = .ok (.aload_n 0, 1) := by decide +kernel
theorem dX2_bond_142 : decode cX2_bond 142 = .ok (.getfield 57, 3) := by decide +kernel
theorem dX2_bond_145 : decode cX2_bond 145 = .ok (.bipush 6, 2) := by decide +kernel
theorem dX2_bond_147 : decode cX2_bond 147 = .ok (.iload_n 1, 1) := by decide +kernel
theorem dX2_bond_148 : decode cX2_bond 148 = .ok (.imul, 1) := by decide +kernel
theorem dX2_bond_149 : decode cX2_bond 149 = .ok (.iload 6, 2) := by decide +kernel
theorem dX2_bond_151 : decode cX2_bond 151 = .ok (.iadd, 1) := by decide +kernel
theorem dX2_bond_152 : decode cX2_bond 152 = .ok (.aload_n 0, 1) := by decide +kernel
theorem dX2_bond_153 : decode cX2_bond 153 = .ok (.getfield 7, 3) := by decide +kernel
theorem dX2_bond_156 : decode cX2_bond 156 = .ok (.iload 6, 2) := by decide +kernel
theorem dX2_bond_158 : decode cX2_bond 158 = .ok (.iaload, 1) := by decide +kernel
theorem dX2_bond_159 : decode cX2_bond 159 = .ok (.iastore, 1) := by decide +kernel
theorem dX2_bond_160 : decode cX2_bond 160 = .ok (.aload_n 0, 1) := by decide +kernel
theorem dX2_bond_161 : decode cX2_bond 161 = .ok (.getfield 60, 3) := by decide +kernel
theorem dX2_bond_164 : decode cX2_bond 164 = .ok (.iload_n 1, 1) := by decide +kernel
theorem dX2_bond_165 : decode cX2_bond 165 = .ok (.iload 6, 2) := by decide +kernel
theorem dX2_bond_167 : decode cX2_bond 167 = .ok (.iload_n 2, 1) := by decide +kernel
theorem dX2_bond_168 : decode cX2_bond 168 = .ok (.invokestatic 109, 3) := by decide +kernel
theorem dX2_bond_171 : decode cX2_bond 171 = .ok (.aload_n 0, 1) := by decide +kernel
theorem dX2_bond_172 : decode cX2_bond 172 = .ok (.getfield 54, 3) := by decide +kernel
theorem dX2_bond_175 : decode cX2_bond 175 = .ok (.bipush 6, 2) := by decide +kernel
theorem dX2_bond_177 : decode cX2_bond 177 = .ok (.iload_n 1, 1) := by decide +kernel
theorem dX2_bond_178 : decode cX2_bond 178 = .ok (.imul, 1) := by decide +kernel
theorem dX2_bond_179 : decode cX2_bond 179 = .ok (.iload 6, 2) := by decide +kernel
theorem dX2_bond_181 : decode cX2_bond 181 = .ok (.iadd, 1) := by decide +kernel
theorem dX2_bond_182 : decode cX2_bond 182 = .ok (.iaload, 1) := by decide +kernel
theorem dX2_bond_183 : decode cX2_bond 183 = .ok (.iastore, 1) := by decide +kernel
theorem dX2_bond_184 : decode cX2_bond 184 = .ok (.iinc 6 1, 3) := by decide +kernel
theorem dX2_bond_187 : decode cX2_bond 187 = .ok (.goto (-53), 3) := by decide +kernel
theorem dX2_bond_190 : decode cX2_bond 190 = .ok (.aload_n 0, 1) := by decide +kernel
theorem dX2_bond_191 : decode cX2_bond 191 = .ok (.getfield 23, 3) := by decide +kernel
theorem dX2_bond_194 : decode cX2_bond 194 = .ok (.iload 4, 2) := by decide +kernel
theorem dX2_bond_196 : decode cX2_bond 196 = .ok (.dup2, 1) := by decide +kernel
theorem dX2_bond_197 : decode cX2_bond 197 = .ok (.iaload, 1) := by decide +kernel
theorem dX2_bond_198 : decode cX2_bond 198 = .ok (.aload_n 0, 1) := by decide +kernel
theorem dX2_bond_199 : decode cX2_bond 199 = .ok (.iload_n 1, 1) := by decide +kernel
theorem dX2_bond_200 : decode cX2_bond 200 = .ok (.invokevirtual 103, 3) := by decide +kernel
theorem dX2_bond_203 : decode cX2_bond 203 = .ok (.iadd, 1) := by decide +kernel
theorem dX2_bond_204 : decode cX2_bond 204 = .ok (.iastore, 1) := by decide +kernel
theorem dX2_bond_205 : decode cX2_bond 205 = .ok (.aload_n 0, 1) := by decide +kernel
theorem dX2_bond_206 : decode cX2_bond 206 = .ok (.iload_n 1, 1) := by decide +kernel
theorem dX2_bond_207 : decode cX2_bond 207 = .ok (.invokevirtual 103, 3) := by decide +kernel
theorem dX2_bond_210 : decode cX2_bond 210 = .ok (.ireturn, 1) := by decide +kernel
theorem dX2_isGoods_0 : decode cX2_isGoods 0 = .ok (.iload_n 0, 1) := by decide +kernel
theorem dX2_isGoods_1 : decode cX2_isGoods 1 = .ok (.invokestatic 73, 3) := by decide +kernel
theorem dX2_isGoods_4 : decode cX2_isGoods 4 = .ok (.ifCond .eq 24, 3) := by decide +kernel
theorem dX2_isGoods_7 : decode cX2_isGoods 7 = .ok (.iload_n 1, 1) := by decide +kernel
theorem dX2_isGoods_8 : decode cX2_isGoods 8 = .ok (.invokestatic 106, 3) := by decide +kernel
theorem dX2_isGoods_11 : decode cX2_isGoods 11 = .ok (.ifCond .eq 17, 3) := by decide +kernel
theorem dX2_isGoods_14 : decode cX2_isGoods 14 = .ok (.iload_n 2, 1) := by decide +kernel
theorem dX2_isGoods_15 : decode cX2_isGoods 15 = .ok (.iconst 1, 1) := by decide +kernel
theorem dX2_isGoods_16 : decode cX2_isGoods 16 = .ok (.bipush 100, 2) := by decide +kernel
theorem dX2_isGoods_18 : decode cX2_isGoods 18 = .ok (.invokestatic 66, 3) := by decide +kernel
theorem dX2_isGoods_21 : decode cX2_isGoods 21 = .ok (.ifCond .eq 7, 3) := by decide +kernel
theorem dX2_isGoods_24 : decode cX2_isGoods 24 = .ok (.iconst 1, 1) := by decide +kernel
theorem dX2_isGoods_25 : decode cX2_isGoods 25 = .ok (.goto 4, 3) := by decide +kernel
theorem dX2_isGoods_28 : decode cX2_isGoods 28 = .ok (.iconst 0, 1) := by decide +kernel
theorem dX2_isGoods_29 : decode cX2_isGoods 29 = .ok (.ireturn, 1) := by decide +kernel
theorem dX2_move_0 : decode cX2_move 0 = .ok (.aload_n 0, 1) := by decide +kernel
theorem dX2_move_1 : decode cX2_move 1 = .ok (.iload_n 1, 1) := by decide +kernel
theorem dX2_move_2 : decode cX2_move 2 = .ok (.invokevirtual 90, 3) := by decide +kernel
theorem dX2_move_5 : decode cX2_move 5 = .ok (.istore 6, 2) := by decide +kernel
theorem dX2_move_7 : decode cX2_move 7 = .ok (.iload_n 2, 1) := by decide +kernel
theorem dX2_move_8 : decode cX2_move 8 = .ok (.iload_n 3, 1) := by decide +kernel
theorem dX2_move_9 : decode cX2_move 9 = .ok (.iload 5, 2) := by decide +kernel
theorem dX2_move_11 : decode cX2_move 11 = .ok (.invokestatic 113, 3) := by decide +kernel
theorem dX2_move_14 : decode cX2_move 14 = .ok (.ifCond .eq 21, 3) := by decide +kernel
theorem dX2_move_17 : decode cX2_move 17 = .ok (.iload 4, 2) := by decide +kernel
theorem dX2_move_19 : decode cX2_move 19 = .ok (.invokestatic 106, 3) := by decide +kernel
theorem dX2_move_22 : decode cX2_move 22 = .ok (.ifCond .eq 13, 3) := by decide +kernel
theorem dX2_move_25 : decode cX2_move 25 = .ok (.iload_n 3, 1) := by decide +kernel
theorem dX2_move_26 : decode cX2_move 26 = .ok (.iload 4, 2) := by decide +kernel
theorem dX2_move_28 : decode cX2_move 28 = .ok (.if_icmp .eq 7, 3) := by decide +kernel
theorem dX2_move_31 : decode cX2_move 31 = .ok (.iconst 1, 1) := by decide +kernel
theorem dX2_move_32 : decode cX2_move 32 = .ok (.goto 4, 3) := by decide +kernel
theorem dX2_move_35 : decode cX2_move 35 = .ok (.iconst 0, 1) := by decide +kernel
theorem dX2_move_36 : decode cX2_move 36 = .ok (.istore 7, 2) := by decide +kernel
theorem dX2_move_38 : decode cX2_move 38 = .ok (.aload_n 0, 1) := by decide +kernel
theorem dX2_move_39 : decode cX2_move 39 = .ok (.iload 6, 2) := by decide +kernel
theorem dX2_move_41 : decode cX2_move 41 = .ok (.ifCond .ne 7, 3) := by decide +kernel
theorem dX2_move_44 : decode cX2_move 44 = .ok (.iconst 1, 1) := by decide +kernel
theorem dX2_move_45 : decode cX2_move 45 = .ok (.goto 33, 3) := by decide +kernel
theorem dX2_move_48 : decode cX2_move 48 = .ok (.iload 7, 2) := by decide +kernel
theorem dX2_move_50 : decode cX2_move 50 = .ok (.ifCond .ne 7, 3) := by decide +kernel
theorem dX2_move_53 : decode cX2_move 53 = .ok (.iconst 2, 1) := by decide +kernel
theorem dX2_move_54 : decode cX2_move 54 = .ok (.goto 24, 3) := by decide +kernel
theorem dX2_move_57 : decode cX2_move 57 = .ok (.aload_n 0, 1) := by decide +kernel
theorem dX2_move_58 : decode cX2_move 58 = .ok (.getfield 60, 3) := by decide +kernel
theorem dX2_move_61 : decode cX2_move 61 = .ok (.iload_n 1, 1) := by decide +kernel
theorem dX2_move_62 : decode cX2_move 62 = .ok (.iload_n 2, 1) := by decide +kernel
theorem dX2_move_63 : decode cX2_move 63 = .ok (.iload_n 3, 1) := by decide +kernel
theorem dX2_move_64 : decode cX2_move 64 = .ok (.invokestatic 109, 3) := by decide +kernel
theorem dX2_move_67 : decode cX2_move 67 = .ok (.iaload, 1) := by decide +kernel
theorem dX2_move_68 : decode cX2_move 68 = .ok (.iload 5, 2) := by decide +kernel
theorem dX2_move_70 : decode cX2_move 70 = .ok (.if_icmp .ge 7, 3) := by decide +kernel
theorem dX2_move_73 : decode cX2_move 73 = .ok (.iconst 3, 1) := by decide +kernel
theorem dX2_move_74 : decode cX2_move 74 = .ok (.goto 4, 3) := by decide +kernel
theorem dX2_move_77 : decode cX2_move 77 = .ok (.iconst 0, 1) := by decide +kernel
theorem dX2_move_78 : decode cX2_move 78 = .ok (.invokevirtual 77, 3) := by decide +kernel
theorem dX2_move_81 : decode cX2_move 81 = .ok (.ifCond .ne 5, 3) := by decide +kernel
theorem dX2_move_84 : decode cX2_move 84 = .ok (.iconst 0, 1) := by decide +kernel
theorem dX2_move_85 : decode cX2_move 85 = .ok (.ireturn, 1) := by decide +kernel
theorem dX2_move_86 : decode cX2_move 86 = .ok (.aload_n 0, 1) := by decide +kernel
theorem dX2_move_87 : decode cX2_move 87 = .ok (.getfield 60, 3) := by decide +kernel
theorem dX2_move_90 : decode cX2_move 90 = .ok (.iload_n 1, 1) := by decide +kernel
theorem dX2_move_91 : decode cX2_move 91 = .ok (.iload_n 2, 1) := by decide +kernel
theorem dX2_move_92 : decode cX2_move 92 = .ok (.iload_n 3, 1) := by decide +kernel
theorem dX2_move_93 : decode cX2_move 93 = .ok (.invokestatic 109, 3) := by decide +kernel
theorem dX2_move_96 : decode cX2_move 96 = .ok (.dup2, 1) := by decide +kernel
theorem dX2_move_97 : decode cX2_move 97 = .ok (.iaload, 1) := by decide +kernel
theorem dX2_move_98 : decode cX2_move 98 = .ok (.iload 5, 2) := by decide +kernel
theorem dX2_move_100 : decode cX2_move 100 = .ok (.isub, 1) := by decide +kernel
theorem dX2_move_101 : decode cX2_move 101 = .ok (.iastore, 1) := by decide +kernel
theorem dX2_move_102 : decode cX2_move 102 = .ok (.aload_n 0, 1) := by decide +kernel
theorem dX2_move_103 : decode cX2_move 103 = .ok (.getfield 60, 3) := by decide +kernel
theorem dX2_move_106 : decode cX2_move 106 = .ok (.iload_n 1, 1) := by decide +kernel
theorem dX2_move_107 : decode cX2_move 107 = .ok (.iload_n 2, 1) := by decide +kernel
theorem dX2_move_108 : decode cX2_move 108 = .ok (.iload 4, 2) := by decide +kernel
theorem dX2_move_110 : decode cX2_move 110 = .ok (.invokestatic 109, 3) := by decide +kernel
theorem dX2_move_113 : decode cX2_move 113 = .ok (.dup2, 1) := by decide +kernel
theorem dX2_move_114 : decode cX2_move 114 = .ok (.iaload, 1) := by decide +kernel
theorem dX2_move_115 : decode cX2_move 115 = .ok (.iload 5, 2) := by decide +kernel
theorem dX2_move_117 : decode cX2_move 117 = .ok (.iadd, 1) := by decide +kernel
theorem dX2_move_118 : decode cX2_move 118 = .ok (.iastore, 1) := by decide +kernel
theorem dX2_move_119 : decode cX2_move 119 = .ok (.aload_n 0, 1) := by decide +kernel
theorem dX2_move_120 : decode cX2_move 120 = .ok (.getfield 60, 3) := by decide +kernel
theorem dX2_move_123 : decode cX2_move 123 = .ok (.iload_n 1, 1) := by decide +kernel
theorem dX2_move_124 : decode cX2_move 124 = .ok (.iload_n 2, 1) := by decide +kernel
theorem dX2_move_125 : decode cX2_move 125 = .ok (.iload 4, 2) := by decide +kernel
theorem dX2_move_127 : decode cX2_move 127 = .ok (.invokestatic 109, 3) := by decide +kernel
theorem dX2_move_130 : decode cX2_move 130 = .ok (.iaload, 1) := by decide +kernel
theorem dX2_move_131 : decode cX2_move 131 = .ok (.ireturn, 1) := by decide +kernel
theorem dX2_whyNot_0 : decode cX2_whyNot 0 = .ok (.aload_n 0, 1) := by decide +kernel
theorem dX2_whyNot_1 : decode cX2_whyNot 1 = .ok (.iload_n 1, 1) := by decide +kernel
theorem dX2_whyNot_2 : decode cX2_whyNot 2 = .ok (.invokevirtual 90, 3) := by decide +kernel
theorem dX2_whyNot_5 : decode cX2_whyNot 5 = .ok (.ifCond .ne 5, 3) := by decide +kernel
theorem dX2_whyNot_8 : decode cX2_whyNot 8 = .ok (.iconst 1, 1) := by decide +kernel
theorem dX2_whyNot_9 : decode cX2_whyNot 9 = .ok (.ireturn, 1) := by decide +kernel
theorem dX2_whyNot_10 : decode cX2_whyNot 10 = .ok (.iload_n 2, 1) := by decide +kernel
theorem dX2_whyNot_11 : decode cX2_whyNot 11 = .ok (.iload_n 3, 1) := by decide +kernel
theorem dX2_whyNot_12 : decode cX2_whyNot 12 = .ok (.iload 4, 2) := by decide +kernel
theorem dX2_whyNot_14 : decode cX2_whyNot 14 = .ok (.invokestatic 113, 3) := by decide +kernel
theorem dX2_whyNot_17 : decode cX2_whyNot 17 = .ok (.ifCond .ne 7, 3) := by decide +kernel
theorem dX2_whyNot_20 : decode cX2_whyNot 20 = .ok (.iconst 2, 1) := by decide +kernel
theorem dX2_whyNot_21 : decode cX2_whyNot 21 = .ok (.goto 24, 3) := by decide +kernel
theorem dX2_whyNot_24 : decode cX2_whyNot 24 = .ok (.aload_n 0, 1) := by decide +kernel
theorem dX2_whyNot_25 : decode cX2_whyNot 25 = .ok (.getfield 60, 3) := by decide +kernel
theorem dX2_whyNot_28 : decode cX2_whyNot 28 = .ok (.iload_n 1, 1) := by decide +kernel
theorem dX2_whyNot_29 : decode cX2_whyNot 29 = .ok (.iload_n 2, 1) := by decide +kernel
theorem dX2_whyNot_30 : decode cX2_whyNot 30 = .ok (.iload_n 3, 1) := by decide +kernel
theorem dX2_whyNot_31 : decode cX2_whyNot 31 = .ok (.invokestatic 109, 3) := by decide +kernel
theorem dX2_whyNot_34 : decode cX2_whyNot 34 = .ok (.iaload, 1) := by decide +kernel
theorem dX2_whyNot_35 : decode cX2_whyNot 35 = .ok (.iload 4, 2) := by decide +kernel
theorem dX2_whyNot_37 : decode cX2_whyNot 37 = .ok (.if_icmp .ge 7, 3) := by decide +kernel
theorem dX2_whyNot_40 : decode cX2_whyNot 40 = .ok (.iconst 3, 1) := by decide +kernel
theorem dX2_whyNot_41 : decode cX2_whyNot 41 = .ok (.goto 4, 3) := by decide +kernel
theorem dX2_whyNot_44 : decode cX2_whyNot 44 = .ok (.iconst 0, 1) := by decide +kernel
theorem dX2_whyNot_45 : decode cX2_whyNot 45 = .ok (.ireturn, 1) := by decide +kernel
theorem dX2_leaves_0 : decode cX2_leaves 0 = .ok (.aload_n 0, 1) := by decide +kernel
theorem dX2_leaves_1 : decode cX2_leaves 1 = .ok (.getfield 60, 3) := by decide +kernel
theorem dX2_leaves_4 : decode cX2_leaves 4 = .ok (.iload_n 1, 1) := by decide +kernel
theorem dX2_leaves_5 : decode cX2_leaves 5 = .ok (.iload_n 2, 1) := by decide +kernel
theorem dX2_leaves_6 : decode cX2_leaves 6 = .ok (.iload_n 3, 1) := by decide +kernel
theorem dX2_leaves_7 : decode cX2_leaves 7 = .ok (.invokestatic 109, 3) := by decide +kernel
theorem dX2_leaves_10 : decode cX2_leaves 10 = .ok (.dup2, 1) := by decide +kernel
theorem dX2_leaves_11 : decode cX2_leaves 11 = .ok (.iaload, 1) := by decide +kernel
theorem dX2_leaves_12 : decode cX2_leaves 12 = .ok (.iload 4, 2) := by decide +kernel
theorem dX2_leaves_14 : decode cX2_leaves 14 = .ok (.isub, 1) := by decide +kernel
theorem dX2_leaves_15 : decode cX2_leaves 15 = .ok (.iastore, 1) := by decide +kernel
theorem dX2_leaves_16 : decode cX2_leaves 16 = .ok (.iload 4, 2) := by decide +kernel
theorem dX2_leaves_18 : decode cX2_leaves 18 = .ok (.aload_n 0, 1) := by decide +kernel
theorem dX2_leaves_19 : decode cX2_leaves 19 = .ok (.getfield 57, 3) := by decide +kernel
theorem dX2_leaves_22 : decode cX2_leaves 22 = .ok (.bipush 6, 2) := by decide +kernel
theorem dX2_leaves_24 : decode cX2_leaves 24 = .ok (.iload_n 1, 1) := by decide +kernel
theorem dX2_leaves_25 : decode cX2_leaves 25 = .ok (.imul, 1) := by decide +kernel
theorem dX2_leaves_26 : decode cX2_leaves 26 = .ok (.iload_n 2, 1) := by decide +kernel
theorem dX2_leaves_27 : decode cX2_leaves 27 = .ok (.iadd, 1) := by decide +kernel
theorem dX2_leaves_28 : decode cX2_leaves 28 = .ok (.iaload, 1) := by decide +kernel
theorem dX2_leaves_29 : decode cX2_leaves 29 = .ok (.imul, 1) := by decide +kernel
theorem dX2_leaves_30 : decode cX2_leaves 30 = .ok (.istore 5, 2) := by decide +kernel
theorem dX2_leaves_32 : decode cX2_leaves 32 = .ok (.aload_n 0, 1) := by decide +kernel
theorem dX2_leaves_33 : decode cX2_leaves 33 = .ok (.getfield 23, 3) := by decide +kernel
theorem dX2_leaves_36 : decode cX2_leaves 36 = .ok (.aload_n 0, 1) := by decide +kernel
theorem dX2_leaves_37 : decode cX2_leaves 37 = .ok (.getfield 29, 3) := by decide +kernel
theorem dX2_leaves_40 : decode cX2_leaves 40 = .ok (.iload_n 1, 1) := by decide +kernel
theorem dX2_leaves_41 : decode cX2_leaves 41 = .ok (.iaload, 1) := by decide +kernel
theorem dX2_leaves_42 : decode cX2_leaves 42 = .ok (.dup2, 1) := by decide +kernel
theorem dX2_leaves_43 : decode cX2_leaves 43 = .ok (.iaload, 1) := by decide +kernel
theorem dX2_leaves_44 : decode cX2_leaves 44 = .ok (.iload 5, 2) := by decide +kernel
theorem dX2_leaves_46 : decode cX2_leaves 46 = .ok (.isub, 1) := by decide +kernel
theorem dX2_leaves_47 : decode cX2_leaves 47 = .ok (.iastore, 1) := by decide +kernel
theorem dX2_leaves_48 : decode cX2_leaves 48 = .ok (.iconst 0, 1) := by decide +kernel
theorem dX2_leaves_49 : decode cX2_leaves 49 = .ok (.istore 6, 2) := by decide +kernel
theorem dX2_leaves_51 : decode cX2_leaves 51 = .ok (.iload_n 1, 1) := by decide +kernel
theorem dX2_leaves_52 : decode cX2_leaves 52 = .ok (.iconst 0, 1) := by decide +kernel
theorem dX2_leaves_53 : decode cX2_leaves 53 = .ok (.iconst 0, 1) := by decide +kernel
theorem dX2_leaves_54 : decode cX2_leaves 54 = .ok (.invokestatic 109, 3) := by decide +kernel
theorem dX2_leaves_57 : decode cX2_leaves 57 = .ok (.istore 7, 2) := by decide +kernel
theorem dX2_leaves_59 : decode cX2_leaves 59 = .ok (.iload 7, 2) := by decide +kernel
theorem dX2_leaves_61 : decode cX2_leaves 61 = .ok (.iload_n 1, 1) := by decide +kernel
theorem dX2_leaves_62 : decode cX2_leaves 62 = .ok (.iconst 1, 1) := by decide +kernel
theorem dX2_leaves_63 : decode cX2_leaves 63 = .ok (.iadd, 1) := by decide +kernel
theorem dX2_leaves_64 : decode cX2_leaves 64 = .ok (.iconst 0, 1) := by decide +kernel
theorem dX2_leaves_65 : decode cX2_leaves 65 = .ok (.iconst 0, 1) := by decide +kernel
theorem dX2_leaves_66 : decode cX2_leaves 66 = .ok (.invokestatic 109, 3) := by decide +kernel
theorem dX2_leaves_69 : decode cX2_leaves 69 = .ok (.if_icmp .ge 21, 3) := by decide +kernel
theorem dX2_leaves_72 : decode cX2_leaves 72 = .ok (.iload 6, 2) := by decide +kernel
theorem dX2_leaves_74 : decode cX2_leaves 74 = .ok (.aload_n 0, 1) := by decide +kernel
theorem dX2_leaves_75 : decode cX2_leaves 75 = .ok (.getfield 60, 3) := by decide +kernel
theorem dX2_leaves_78 : decode cX2_leaves 78 = .ok (.iload 7, 2) := by decide +kernel
theorem dX2_leaves_80 : decode cX2_leaves 80 = .ok (.iaload, 1) := by decide +kernel
theorem dX2_leaves_81 : decode cX2_leaves 81 = .ok (.iadd, 1) := by decide +kernel
theorem dX2_leaves_82 : decode cX2_leaves 82 = .ok (.istore 6, 2) := by decide +kernel
theorem dX2_leaves_84 : decode cX2_leaves 84 = .ok (.iinc 7 1, 3) := by decide +kernel
theorem dX2_leaves_87 : decode cX2_leaves 87 = .ok (.goto (-28), 3) := by decide +kernel
theorem dX2_leaves_90 : decode cX2_leaves 90 = .ok (.aload_n 0, 1) := by decide +kernel
theorem dX2_leaves_91 : decode cX2_leaves 91 = .ok (.getfield 35, 3) := by decide +kernel
theorem dX2_leaves_94 : decode cX2_leaves 94 = .ok (.iload_n 1, 1) := by decide +kernel
theorem dX2_leaves_95 : decode cX2_leaves 95 = .ok (.iload 6, 2) := by decide +kernel
theorem dX2_leaves_97 : decode cX2_leaves 97 = .ok (.ifCond .ne 7, 3) := by decide +kernel
theorem dX2_leaves_100 : decode cX2_leaves 100 = .ok (.iconst 3, 1) := by decide +kernel
theorem dX2_leaves_101 : decode cX2_leaves 101 = .ok (.goto 4, 3) := by decide +kernel
theorem dX2_leaves_104 : decode cX2_leaves 104 = .ok (.iconst 2, 1) := by decide +kernel
theorem dX2_leaves_105 : decode cX2_leaves 105 = .ok (.iastore, 1) := by decide +kernel
theorem dX2_leaves_106 : decode cX2_leaves 106 = .ok (.iload 5, 2) := by decide +kernel
theorem dX2_leaves_108 : decode cX2_leaves 108 = .ok (.ireturn, 1) := by decide +kernel
theorem dX2_free_0 : decode cX2_free 0 = .ok (.aload_n 0, 1) := by decide +kernel
theorem dX2_free_1 : decode cX2_free 1 = .ok (.aload_n 0, 1) := by decide +kernel
theorem dX2_free_2 : decode cX2_free 2 = .ok (.iload_n 1, 1) := by decide +kernel
theorem dX2_free_3 : decode cX2_free 3 = .ok (.iload_n 2, 1) := by decide +kernel
theorem dX2_free_4 : decode cX2_free 4 = .ok (.iload_n 3, 1) := by decide +kernel
theorem dX2_free_5 : decode cX2_free 5 = .ok (.iload 4, 2) := by decide +kernel
theorem dX2_free_7 : decode cX2_free 7 = .ok (.invokevirtual 116, 3) := by decide +kernel
theorem dX2_free_10 : decode cX2_free 10 = .ok (.invokevirtual 77, 3) := by decide +kernel
theorem dX2_free_13 : decode cX2_free 13 = .ok (.ifCond .ne 5, 3) := by decide +kernel
theorem dX2_free_16 : decode cX2_free 16 = .ok (.iconst 0, 1) := by decide +kernel
theorem dX2_free_17 : decode cX2_free 17 = .ok (.ireturn, 1) := by decide +kernel
theorem dX2_free_18 : decode cX2_free 18 = .ok (.aload_n 0, 1) := by decide +kernel
theorem dX2_free_19 : decode cX2_free 19 = .ok (.iload_n 1, 1) := by decide +kernel
theorem dX2_free_20 : decode cX2_free 20 = .ok (.iload_n 2, 1) := by decide +kernel
theorem dX2_free_21 : decode cX2_free 21 = .ok (.iload_n 3, 1) := by decide +kernel
theorem dX2_free_22 : decode cX2_free 22 = .ok (.iload 4, 2) := by decide +kernel
theorem dX2_free_24 : decode cX2_free 24 = .ok (.invokevirtual 120, 3) := by decide +kernel
theorem dX2_free_27 : decode cX2_free 27 = .ok (.istore 5, 2) := by decide +kernel
theorem dX2_free_29 : decode cX2_free 29 = .ok (.aload_n 0, 1) := by decide +kernel
theorem dX2_free_30 : decode cX2_free 30 = .ok (.getfield 26, 3) := by decide +kernel
theorem dX2_free_33 : decode cX2_free 33 = .ok (.aload_n 0, 1) := by decide +kernel
theorem dX2_free_34 : decode cX2_free 34 = .ok (.getfield 29, 3) := by decide +kernel
theorem dX2_free_37 : decode cX2_free 37 = .ok (.iload_n 1, 1) := by decide +kernel
theorem dX2_free_38 : decode cX2_free 38 = .ok (.iaload, 1) := by decide +kernel
theorem dX2_free_39 : decode cX2_free 39 = .ok (.dup2, 1) := by decide +kernel
theorem dX2_free_40 : decode cX2_free 40 = .ok (.iaload, 1) := by decide +kernel
theorem dX2_free_41 : decode cX2_free 41 = .ok (.iload 5, 2) := by decide +kernel
theorem dX2_free_43 : decode cX2_free 43 = .ok (.iadd, 1) := by decide +kernel
theorem dX2_free_44 : decode cX2_free 44 = .ok (.iastore, 1) := by decide +kernel
theorem dX2_free_45 : decode cX2_free 45 = .ok (.iload 5, 2) := by decide +kernel
theorem dX2_free_47 : decode cX2_free 47 = .ok (.ireturn, 1) := by decide +kernel
theorem dX2_sendBack_0 : decode cX2_sendBack 0 = .ok (.aload_n 0, 1) := by decide +kernel
theorem dX2_sendBack_1 : decode cX2_sendBack 1 = .ok (.aload_n 0, 1) := by decide +kernel
theorem dX2_sendBack_2 : decode cX2_sendBack 2 = .ok (.iload_n 1, 1) := by decide +kernel
theorem dX2_sendBack_3 : decode cX2_sendBack 3 = .ok (.iload_n 2, 1) := by decide +kernel
theorem dX2_sendBack_4 : decode cX2_sendBack 4 = .ok (.iload_n 3, 1) := by decide +kernel
theorem dX2_sendBack_5 : decode cX2_sendBack 5 = .ok (.iload 4, 2) := by decide +kernel
theorem dX2_sendBack_7 : decode cX2_sendBack 7 = .ok (.invokevirtual 116, 3) := by decide +kernel
theorem dX2_sendBack_10 : decode cX2_sendBack 10 = .ok (.invokevirtual 77, 3) := by decide +kernel
theorem dX2_sendBack_13 : decode cX2_sendBack 13 = .ok (.ifCond .eq 15, 3) := by decide +kernel
theorem dX2_sendBack_16 : decode cX2_sendBack 16 = .ok (.aload_n 0, 1) := by decide +kernel
theorem dX2_sendBack_17 : decode cX2_sendBack 17 = .ok (.iload_n 1, 1) := by decide +kernel
theorem dX2_sendBack_18 : decode cX2_sendBack 18 = .ok (.iload_n 2, 1) := by decide +kernel
theorem dX2_sendBack_19 : decode cX2_sendBack 19 = .ok (.iload_n 3, 1) := by decide +kernel
theorem dX2_sendBack_20 : decode cX2_sendBack 20 = .ok (.iload 4, 2) := by decide +kernel
theorem dX2_sendBack_22 : decode cX2_sendBack 22 = .ok (.invokevirtual 120, 3) := by decide +kernel
theorem dX2_sendBack_25 : decode cX2_sendBack 25 = .ok (.goto 4, 3) := by decide +kernel
theorem dX2_sendBack_28 : decode cX2_sendBack 28 = .ok (.iconst 0, 1) := by decide +kernel
theorem dX2_sendBack_29 : decode cX2_sendBack 29 = .ok (.ireturn, 1) := by decide +kernel
theorem dX2_state_0 : decode cX2_state 0 = .ok (.aload_n 0, 1) := by decide +kernel
theorem dX2_state_1 : decode cX2_state 1 = .ok (.aload_n 0, 1) := by decide +kernel
theorem dX2_state_2 : decode cX2_state 2 = .ok (.iload_n 1, 1) := by decide +kernel
theorem dX2_state_3 : decode cX2_state 3 = .ok (.invokevirtual 90, 3) := by decide +kernel
theorem dX2_state_6 : decode cX2_state 6 = .ok (.ifCond .eq 7, 3) := by decide +kernel
theorem dX2_state_9 : decode cX2_state 9 = .ok (.iconst 0, 1) := by decide +kernel
theorem dX2_state_10 : decode cX2_state 10 = .ok (.goto 4, 3) := by decide +kernel
theorem dX2_state_13 : decode cX2_state 13 = .ok (.iconst 1, 1) := by decide +kernel
theorem dX2_state_14 : decode cX2_state 14 = .ok (.invokevirtual 77, 3) := by decide +kernel
theorem dX2_state_17 : decode cX2_state 17 = .ok (.ifCond .eq 12, 3) := by decide +kernel
theorem dX2_state_20 : decode cX2_state 20 = .ok (.aload_n 0, 1) := by decide +kernel
theorem dX2_state_21 : decode cX2_state 21 = .ok (.getfield 35, 3) := by decide +kernel
theorem dX2_state_24 : decode cX2_state 24 = .ok (.iload_n 1, 1) := by decide +kernel
theorem dX2_state_25 : decode cX2_state 25 = .ok (.iaload, 1) := by decide +kernel
theorem dX2_state_26 : decode cX2_state 26 = .ok (.goto 4, 3) := by decide +kernel
theorem dX2_state_29 : decode cX2_state 29 = .ok (.iconst 0, 1) := by decide +kernel
theorem dX2_state_30 : decode cX2_state 30 = .ok (.ireturn, 1) := by decide +kernel
theorem dX2_manifest_0 : decode cX2_manifest 0 = .ok (.aload_n 0, 1) := by decide +kernel
theorem dX2_manifest_1 : decode cX2_manifest 1 = .ok (.iload_n 1, 1) := by decide +kernel
theorem dX2_manifest_2 : decode cX2_manifest 2 = .ok (.invokevirtual 90, 3) := by decide +kernel
theorem dX2_manifest_5 : decode cX2_manifest 5 = .ok (.istore_n 3, 1) := by decide +kernel
theorem dX2_manifest_6 : decode cX2_manifest 6 = .ok (.aload_n 0, 1) := by decide +kernel
theorem dX2_manifest_7 : decode cX2_manifest 7 = .ok (.iload_n 3, 1) := by decide +kernel
theorem dX2_manifest_8 : decode cX2_manifest 8 = .ok (.ifCond .ne 7, 3) := by decide +kernel
theorem dX2_manifest_11 : decode cX2_manifest 11 = .ok (.iconst 1, 1) := by decide +kernel
theorem dX2_manifest_12 : decode cX2_manifest 12 = .ok (.goto 15, 3) := by decide +kernel
theorem dX2_manifest_15 : decode cX2_manifest 15 = .ok (.iload_n 2, 1) := by decide +kernel
theorem dX2_manifest_16 : decode cX2_manifest 16 = .ok (.invokestatic 73, 3) := by decide +kernel
theorem dX2_manifest_19 : decode cX2_manifest 19 = .ok (.ifCond .ne 7, 3) := by decide +kernel
theorem dX2_manifest_22 : decode cX2_manifest 22 = .ok (.iconst 2, 1) := by decide +kernel
theorem dX2_manifest_23 : decode cX2_manifest 23 = .ok (.goto 4, 3) := by decide +kernel
theorem dX2_manifest_26 : decode cX2_manifest 26 = .ok (.iconst 0, 1) := by decide +kernel
theorem dX2_manifest_27 : decode cX2_manifest 27 = .ok (.invokevirtual 77, 3) := by decide +kernel
theorem dX2_manifest_30 : decode cX2_manifest 30 = .ok (.ifCond .eq 17, 3) := by decide +kernel
theorem dX2_manifest_33 : decode cX2_manifest 33 = .ok (.aload_n 0, 1) := by decide +kernel
theorem dX2_manifest_34 : decode cX2_manifest 34 = .ok (.getfield 54, 3) := by decide +kernel
theorem dX2_manifest_37 : decode cX2_manifest 37 = .ok (.bipush 6, 2) := by decide +kernel
theorem dX2_manifest_39 : decode cX2_manifest 39 = .ok (.iload_n 1, 1) := by decide +kernel
theorem dX2_manifest_40 : decode cX2_manifest 40 = .ok (.imul, 1) := by decide +kernel
theorem dX2_manifest_41 : decode cX2_manifest 41 = .ok (.iload_n 2, 1) := by decide +kernel
theorem dX2_manifest_42 : decode cX2_manifest 42 = .ok (.iadd, 1) := by decide +kernel
theorem dX2_manifest_43 : decode cX2_manifest 43 = .ok (.iaload, 1) := by decide +kernel
theorem dX2_manifest_44 : decode cX2_manifest 44 = .ok (.goto 4, 3) := by decide +kernel
theorem dX2_manifest_47 : decode cX2_manifest 47 = .ok (.iconst 0, 1) := by decide +kernel
theorem dX2_manifest_48 : decode cX2_manifest 48 = .ok (.ireturn, 1) := by decide +kernel
theorem dX2_stored_0 : decode cX2_stored 0 = .ok (.aload_n 0, 1) := by decide +kernel
theorem dX2_stored_1 : decode cX2_stored 1 = .ok (.iload_n 1, 1) := by decide +kernel
theorem dX2_stored_2 : decode cX2_stored 2 = .ok (.invokestatic 73, 3) := by decide +kernel
theorem dX2_stored_5 : decode cX2_stored 5 = .ok (.ifCond .eq 14, 3) := by decide +kernel
theorem dX2_stored_8 : decode cX2_stored 8 = .ok (.iload_n 2, 1) := by decide +kernel
theorem dX2_stored_9 : decode cX2_stored 9 = .ok (.invokestatic 106, 3) := by decide +kernel
theorem dX2_stored_12 : decode cX2_stored 12 = .ok (.ifCond .eq 7, 3) := by decide +kernel
theorem dX2_stored_15 : decode cX2_stored 15 = .ok (.iconst 0, 1) := by decide +kernel
theorem dX2_stored_16 : decode cX2_stored 16 = .ok (.goto 4, 3) := by decide +kernel
theorem dX2_stored_19 : decode cX2_stored 19 = .ok (.iconst 1, 1) := by decide +kernel
theorem dX2_stored_20 : decode cX2_stored 20 = .ok (.invokevirtual 77, 3) := by decide +kernel
theorem dX2_stored_23 : decode cX2_stored 23 = .ok (.ifCond .ne 5, 3) := by decide +kernel
theorem dX2_stored_26 : decode cX2_stored 26 = .ok (.iconst 0, 1) := by decide +kernel
theorem dX2_stored_27 : decode cX2_stored 27 = .ok (.ireturn, 1) := by decide +kernel
theorem dX2_stored_28 : decode cX2_stored 28 = .ok (.iconst 0, 1) := by decide +kernel
theorem dX2_stored_29 : decode cX2_stored 29 = .ok (.istore_n 3, 1) := by decide +kernel
theorem dX2_stored_30 : decode cX2_stored 30 = .ok (.iconst 0, 1) := by decide +kernel
theorem dX2_stored_31 : decode cX2_stored 31 = .ok (.istore 4, 2) := by decide +kernel
theorem dX2_stored_33 : decode cX2_stored 33 = .ok (.iload 4, 2) := by decide +kernel
theorem dX2_stored_35 : decode cX2_stored 35 = .ok (.aload_n 0, 1) := by decide +kernel
theorem dX2_stored_36 : decode cX2_stored 36 = .ok (.getfield 70, 3) := by decide +kernel
theorem dX2_stored_39 : decode cX2_stored 39 = .ok (.if_icmp .ge 24, 3) := by decide +kernel
theorem dX2_stored_42 : decode cX2_stored 42 = .ok (.iload_n 3, 1) := by decide +kernel
theorem dX2_stored_43 : decode cX2_stored 43 = .ok (.aload_n 0, 1) := by decide +kernel
theorem dX2_stored_44 : decode cX2_stored 44 = .ok (.getfield 60, 3) := by decide +kernel
theorem dX2_stored_47 : decode cX2_stored 47 = .ok (.iload 4, 2) := by decide +kernel
theorem dX2_stored_49 : decode cX2_stored 49 = .ok (.iload_n 1, 1) := by decide +kernel
theorem dX2_stored_50 : decode cX2_stored 50 = .ok (.iload_n 2, 1) := by decide +kernel
theorem dX2_stored_51 : decode cX2_stored 51 = .ok (.invokestatic 109, 3) := by decide +kernel
theorem dX2_stored_54 : decode cX2_stored 54 = .ok (.iaload, 1) := by decide +kernel
theorem dX2_stored_55 : decode cX2_stored 55 = .ok (.iadd, 1) := by decide +kernel
theorem dX2_stored_56 : decode cX2_stored 56 = .ok (.istore_n 3, 1) := by decide +kernel
theorem dX2_stored_57 : decode cX2_stored 57 = .ok (.iinc 4 1, 3) := by decide +kernel
theorem dX2_stored_60 : decode cX2_stored 60 = .ok (.goto (-27), 3) := by decide +kernel
theorem dX2_stored_63 : decode cX2_stored 63 = .ok (.iload_n 3, 1) := by decide +kernel
theorem dX2_stored_64 : decode cX2_stored 64 = .ok (.ireturn, 1) := by decide +kernel
theorem dX2_held_0 : decode cX2_held 0 = .ok (.aload_n 0, 1) := by decide +kernel
theorem dX2_held_1 : decode cX2_held 1 = .ok (.iload_n 1, 1) := by decide +kernel
theorem dX2_held_2 : decode cX2_held 2 = .ok (.invokestatic 86, 3) := by decide +kernel
theorem dX2_held_5 : decode cX2_held 5 = .ok (.ifCond .eq 7, 3) := by decide +kernel
theorem dX2_held_8 : decode cX2_held 8 = .ok (.iconst 0, 1) := by decide +kernel
theorem dX2_held_9 : decode cX2_held 9 = .ok (.goto 4, 3) := by decide +kernel
theorem dX2_held_12 : decode cX2_held 12 = .ok (.iconst 1, 1) := by decide +kernel
theorem dX2_held_13 : decode cX2_held 13 = .ok (.invokevirtual 77, 3) := by decide +kernel
theorem dX2_held_16 : decode cX2_held 16 = .ok (.ifCond .eq 12, 3) := by decide +kernel
theorem dX2_held_19 : decode cX2_held 19 = .ok (.aload_n 0, 1) := by decide +kernel
theorem dX2_held_20 : decode cX2_held 20 = .ok (.getfield 23, 3) := by decide +kernel
theorem dX2_held_23 : decode cX2_held 23 = .ok (.iload_n 1, 1) := by decide +kernel
theorem dX2_held_24 : decode cX2_held 24 = .ok (.iaload, 1) := by decide +kernel
theorem dX2_held_25 : decode cX2_held 25 = .ok (.goto 4, 3) := by decide +kernel
theorem dX2_held_28 : decode cX2_held 28 = .ok (.iconst 0, 1) := by decide +kernel
theorem dX2_held_29 : decode cX2_held 29 = .ok (.ireturn, 1) := by decide +kernel
theorem dX2_paid_0 : decode cX2_paid 0 = .ok (.aload_n 0, 1) := by decide +kernel
theorem dX2_paid_1 : decode cX2_paid 1 = .ok (.iload_n 1, 1) := by decide +kernel
theorem dX2_paid_2 : decode cX2_paid 2 = .ok (.invokestatic 86, 3) := by decide +kernel
theorem dX2_paid_5 : decode cX2_paid 5 = .ok (.ifCond .eq 7, 3) := by decide +kernel
theorem dX2_paid_8 : decode cX2_paid 8 = .ok (.iconst 0, 1) := by decide +kernel
theorem dX2_paid_9 : decode cX2_paid 9 = .ok (.goto 4, 3) := by decide +kernel
theorem dX2_paid_12 : decode cX2_paid 12 = .ok (.iconst 1, 1) := by decide +kernel
theorem dX2_paid_13 : decode cX2_paid 13 = .ok (.invokevirtual 77, 3) := by decide +kernel
theorem dX2_paid_16 : decode cX2_paid 16 = .ok (.ifCond .eq 12, 3) := by decide +kernel
theorem dX2_paid_19 : decode cX2_paid 19 = .ok (.aload_n 0, 1) := by decide +kernel
theorem dX2_paid_20 : decode cX2_paid 20 = .ok (.getfield 26, 3) := by decide +kernel
theorem dX2_paid_23 : decode cX2_paid 23 = .ok (.iload_n 1, 1) := by decide +kernel
theorem dX2_paid_24 : decode cX2_paid 24 = .ok (.iaload, 1) := by decide +kernel
theorem dX2_paid_25 : decode cX2_paid 25 = .ok (.goto 4, 3) := by decide +kernel
theorem dX2_paid_28 : decode cX2_paid 28 = .ok (.iconst 0, 1) := by decide +kernel
theorem dX2_paid_29 : decode cX2_paid 29 = .ok (.ireturn, 1) := by decide +kernel
theorem dL_setSort_0 : decode cL_setSort 0 = .ok (.aload_n 0, 1) := by decide +kernel
theorem dL_setSort_1 : decode cL_setSort 1 = .ok (.iload_n 1, 1) := by decide +kernel
theorem dL_setSort_2 : decode cL_setSort 2 = .ok (.iload_n 2, 1) := by decide +kernel
theorem dL_setSort_3 : decode cL_setSort 3 = .ok (.iload_n 3, 1) := by decide +kernel
theorem dL_setSort_4 : decode cL_setSort 4 = .ok (.invokevirtual 7, 3) := by decide +kernel
theorem dL_setSort_7 : decode cL_setSort 7 = .ok (.goto 7, 3) := by decide +kernel
theorem dL_setSort_10 : decode cL_setSort 10 = .ok (.astore 4, 2) := by decide +kernel
theorem dL_setSort_12 : decode cL_setSort 12 = .ok (.iconst 1, 1) := by decide +kernel
theorem dL_setSort_13 : decode cL_setSort 13 = .ok (.ireturn, 1) := by decide +kernel
theorem dL_setSort_14 : decode cL_setSort 14 = .ok (.iconst 0, 1) := by decide +kernel
theorem dL_setSort_15 : decode cL_setSort 15 = .ok (.ireturn, 1) := by decide +kernel
theorem dL_setRisk_0 : decode cL_setRisk 0 = .ok (.aload_n 3, 1) := by decide +kernel
theorem dL_setRisk_1 : decode cL_setRisk 1 = .ok (.iconst 0, 1) := by decide +kernel
theorem dL_setRisk_2 : decode cL_setRisk 2 = .ok (.aload_n 0, 1) := by decide +kernel
theorem dL_setRisk_3 : decode cL_setRisk 3 = .ok (.iload_n 1, 1) := by decide +kernel
theorem dL_setRisk_4 : decode cL_setRisk 4 = .ok (.iload_n 2, 1) := by decide +kernel
theorem dL_setRisk_5 : decode cL_setRisk 5 = .ok (.invokevirtual 15, 3) := by decide +kernel
theorem dL_setRisk_8 : decode cL_setRisk 8 = .ok (.i2l, 1) := by decide +kernel
theorem dL_setRisk_9 : decode cL_setRisk 9 = .ok (.lastore, 1) := by decide +kernel
theorem dL_setRisk_10 : decode cL_setRisk 10 = .ok (.goto 7, 3) := by decide +kernel
theorem dL_setRisk_13 : decode cL_setRisk 13 = .ok (.astore 4, 2) := by decide +kernel
theorem dL_setRisk_15 : decode cL_setRisk 15 = .ok (.iconst 1, 1) := by decide +kernel
theorem dL_setRisk_16 : decode cL_setRisk 16 = .ok (.ireturn, 1) := by decide +kernel
theorem dL_setRisk_17 : decode cL_setRisk 17 = .ok (.iconst 0, 1) := by decide +kernel
theorem dL_setRisk_18 : decode cL_setRisk 18 = .ok (.ireturn, 1) := by decide +kernel
theorem dL_setGuarantee_0 : decode cL_setGuarantee 0 = .ok (.aload_n 3, 1) := by decide +kernel
theorem dL_setGuarantee_1 : decode cL_setGuarantee 1 = .ok (.iconst 0, 1) := by decide +kernel
theorem dL_setGuarantee_2 : decode cL_setGuarantee 2 = .ok (.aload_n 0, 1) := by decide +kernel
theorem dL_setGuarantee_3 : decode cL_setGuarantee 3 = .ok (.iload_n 1, 1) := by decide +kernel
theorem dL_setGuarantee_4 : decode cL_setGuarantee 4 = .ok (.iload_n 2, 1) := by decide +kernel
theorem dL_setGuarantee_5 : decode cL_setGuarantee 5 = .ok (.invokevirtual 19, 3) := by decide +kernel
theorem dL_setGuarantee_8 : decode cL_setGuarantee 8 = .ok (.i2l, 1) := by decide +kernel
theorem dL_setGuarantee_9 : decode cL_setGuarantee 9 = .ok (.lastore, 1) := by decide +kernel
theorem dL_setGuarantee_10 : decode cL_setGuarantee 10 = .ok (.goto 11, 3) := by decide +kernel
theorem dL_setGuarantee_13 : decode cL_setGuarantee 13 = .ok (.astore 4, 2) := by decide +kernel
theorem dL_setGuarantee_15 : decode cL_setGuarantee 15 = .ok (.iconst 1, 1) := by decide +kernel
theorem dL_setGuarantee_16 : decode cL_setGuarantee 16 = .ok (.ireturn, 1) := by decide +kernel
theorem dL_setGuarantee_17 : decode cL_setGuarantee 17 = .ok (.astore 4, 2) := by decide +kernel
theorem dL_setGuarantee_19 : decode cL_setGuarantee 19 = .ok (.iconst 2, 1) := by decide +kernel
theorem dL_setGuarantee_20 : decode cL_setGuarantee 20 = .ok (.ireturn, 1) := by decide +kernel
theorem dL_setGuarantee_21 : decode cL_setGuarantee 21 = .ok (.iconst 0, 1) := by decide +kernel
theorem dL_setGuarantee_22 : decode cL_setGuarantee 22 = .ok (.ireturn, 1) := by decide +kernel
theorem dL_announce_0 : decode cL_announce 0 = .ok (.aload_n 3, 1) := by decide +kernel
theorem dL_announce_1 : decode cL_announce 1 = .ok (.iconst 0, 1) := by decide +kernel
theorem dL_announce_2 : decode cL_announce 2 = .ok (.aload_n 0, 1) := by decide +kernel
theorem dL_announce_3 : decode cL_announce 3 = .ok (.iload_n 1, 1) := by decide +kernel
theorem dL_announce_4 : decode cL_announce 4 = .ok (.iload_n 2, 1) := by decide +kernel
theorem dL_announce_5 : decode cL_announce 5 = .ok (.invokevirtual 24, 3) := by decide +kernel
theorem dL_announce_8 : decode cL_announce 8 = .ok (.i2l, 1) := by decide +kernel
theorem dL_announce_9 : decode cL_announce 9 = .ok (.lastore, 1) := by decide +kernel
theorem dL_announce_10 : decode cL_announce 10 = .ok (.goto 11, 3) := by decide +kernel
theorem dL_announce_13 : decode cL_announce 13 = .ok (.astore 4, 2) := by decide +kernel
theorem dL_announce_15 : decode cL_announce 15 = .ok (.iconst 1, 1) := by decide +kernel
theorem dL_announce_16 : decode cL_announce 16 = .ok (.ireturn, 1) := by decide +kernel
theorem dL_announce_17 : decode cL_announce 17 = .ok (.astore 4, 2) := by decide +kernel
theorem dL_announce_19 : decode cL_announce 19 = .ok (.iconst 2, 1) := by decide +kernel
theorem dL_announce_20 : decode cL_announce 20 = .ok (.ireturn, 1) := by decide +kernel
theorem dL_announce_21 : decode cL_announce 21 = .ok (.iconst 0, 1) := by decide +kernel
theorem dL_announce_22 : decode cL_announce 22 = .ok (.ireturn, 1) := by decide +kernel
theorem dL_amend_0 : decode cL_amend 0 = .ok (.aload 4, 2) := by decide +kernel
theorem dL_amend_2 : decode cL_amend 2 = .ok (.iconst 0, 1) := by decide +kernel
theorem dL_amend_3 : decode cL_amend 3 = .ok (.aload_n 0, 1) := by decide +kernel
theorem dL_amend_4 : decode cL_amend 4 = .ok (.iload_n 1, 1) := by decide +kernel
theorem dL_amend_5 : decode cL_amend 5 = .ok (.iload_n 2, 1) := by decide +kernel
theorem dL_amend_6 : decode cL_amend 6 = .ok (.iload_n 3, 1) := by decide +kernel
theorem dL_amend_7 : decode cL_amend 7 = .ok (.invokevirtual 27, 3) := by decide +kernel
theorem dL_amend_10 : decode cL_amend 10 = .ok (.i2l, 1) := by decide +kernel
theorem dL_amend_11 : decode cL_amend 11 = .ok (.lastore, 1) := by decide +kernel
theorem dL_amend_12 : decode cL_amend 12 = .ok (.goto 15, 3) := by decide +kernel
theorem dL_amend_15 : decode cL_amend 15 = .ok (.astore 5, 2) := by decide +kernel
theorem dL_amend_17 : decode cL_amend 17 = .ok (.iconst 1, 1) := by decide +kernel
theorem dL_amend_18 : decode cL_amend 18 = .ok (.ireturn, 1) := by decide +kernel
theorem dL_amend_19 : decode cL_amend 19 = .ok (.astore 5, 2) := by decide +kernel
theorem dL_amend_21 : decode cL_amend 21 = .ok (.iconst 2, 1) := by decide +kernel
theorem dL_amend_22 : decode cL_amend 22 = .ok (.ireturn, 1) := by decide +kernel
theorem dL_amend_23 : decode cL_amend 23 = .ok (.astore 5, 2) := by decide +kernel
theorem dL_amend_25 : decode cL_amend 25 = .ok (.iconst 3, 1) := by decide +kernel
theorem dL_amend_26 : decode cL_amend 26 = .ok (.ireturn, 1) := by decide +kernel
theorem dL_amend_27 : decode cL_amend 27 = .ok (.iconst 0, 1) := by decide +kernel
theorem dL_amend_28 : decode cL_amend 28 = .ok (.ireturn, 1) := by decide +kernel
theorem dL_arrive_0 : decode cL_arrive 0 = .ok (.aload_n 3, 1) := by decide +kernel
theorem dL_arrive_1 : decode cL_arrive 1 = .ok (.iconst 0, 1) := by decide +kernel
theorem dL_arrive_2 : decode cL_arrive 2 = .ok (.aload_n 0, 1) := by decide +kernel
theorem dL_arrive_3 : decode cL_arrive 3 = .ok (.iload_n 1, 1) := by decide +kernel
theorem dL_arrive_4 : decode cL_arrive 4 = .ok (.iload_n 2, 1) := by decide +kernel
theorem dL_arrive_5 : decode cL_arrive 5 = .ok (.invokevirtual 33, 3) := by decide +kernel
theorem dL_arrive_8 : decode cL_arrive 8 = .ok (.ifCond .eq 7, 3) := by decide +kernel
theorem dL_arrive_11 : decode cL_arrive 11 = .ok (.lconst 1, 1) := by decide +kernel
theorem dL_arrive_12 : decode cL_arrive 12 = .ok (.goto 4, 3) := by decide +kernel
theorem dL_arrive_15 : decode cL_arrive 15 = .ok (.lconst 0, 1) := by decide +kernel
theorem dL_arrive_16 : decode cL_arrive 16 = .ok (.lastore, 1) := by decide +kernel
theorem dL_arrive_17 : decode cL_arrive 17 = .ok (.goto 15, 3) := by decide +kernel
theorem dL_arrive_20 : decode cL_arrive 20 = .ok (.astore 4, 2) := by decide +kernel
theorem dL_arrive_22 : decode cL_arrive 22 = .ok (.iconst 1, 1) := by decide +kernel
theorem dL_arrive_23 : decode cL_arrive 23 = .ok (.ireturn, 1) := by decide +kernel
theorem dL_arrive_24 : decode cL_arrive 24 = .ok (.astore 4, 2) := by decide +kernel
theorem dL_arrive_26 : decode cL_arrive 26 = .ok (.iconst 2, 1) := by decide +kernel
theorem dL_arrive_27 : decode cL_arrive 27 = .ok (.ireturn, 1) := by decide +kernel
theorem dL_arrive_28 : decode cL_arrive 28 = .ok (.astore 4, 2) := by decide +kernel
theorem dL_arrive_30 : decode cL_arrive 30 = .ok (.iconst 3, 1) := by decide +kernel
theorem dL_arrive_31 : decode cL_arrive 31 = .ok (.ireturn, 1) := by decide +kernel
theorem dL_arrive_32 : decode cL_arrive 32 = .ok (.iconst 0, 1) := by decide +kernel
theorem dL_arrive_33 : decode cL_arrive 33 = .ok (.ireturn, 1) := by decide +kernel
theorem dL_risk_0 : decode cL_risk 0 = .ok (.aload_n 2, 1) := by decide +kernel
theorem dL_risk_1 : decode cL_risk 1 = .ok (.iconst 0, 1) := by decide +kernel
theorem dL_risk_2 : decode cL_risk 2 = .ok (.aload_n 0, 1) := by decide +kernel
theorem dL_risk_3 : decode cL_risk 3 = .ok (.iload_n 1, 1) := by decide +kernel
theorem dL_risk_4 : decode cL_risk 4 = .ok (.invokevirtual 37, 3) := by decide +kernel
theorem dL_risk_7 : decode cL_risk 7 = .ok (.i2l, 1) := by decide +kernel
theorem dL_risk_8 : decode cL_risk 8 = .ok (.lastore, 1) := by decide +kernel
theorem dL_risk_9 : decode cL_risk 9 = .ok (.goto 9, 3) := by decide +kernel
theorem dL_risk_12 : decode cL_risk 12 = .ok (.astore_n 3, 1) := by decide +kernel
theorem dL_risk_13 : decode cL_risk 13 = .ok (.iconst 1, 1) := by decide +kernel
theorem dL_risk_14 : decode cL_risk 14 = .ok (.ireturn, 1) := by decide +kernel
theorem dL_risk_15 : decode cL_risk 15 = .ok (.astore_n 3, 1) := by decide +kernel
theorem dL_risk_16 : decode cL_risk 16 = .ok (.iconst 2, 1) := by decide +kernel
theorem dL_risk_17 : decode cL_risk 17 = .ok (.ireturn, 1) := by decide +kernel
theorem dL_risk_18 : decode cL_risk 18 = .ok (.iconst 0, 1) := by decide +kernel
theorem dL_risk_19 : decode cL_risk 19 = .ok (.ireturn, 1) := by decide +kernel
theorem dL_mustSearch_0 : decode cL_mustSearch 0 = .ok (.aload_n 2, 1) := by decide +kernel
theorem dL_mustSearch_1 : decode cL_mustSearch 1 = .ok (.iconst 0, 1) := by decide +kernel
theorem dL_mustSearch_2 : decode cL_mustSearch 2 = .ok (.aload_n 0, 1) := by decide +kernel
theorem dL_mustSearch_3 : decode cL_mustSearch 3 = .ok (.iload_n 1, 1) := by decide +kernel
theorem dL_mustSearch_4 : decode cL_mustSearch 4 = .ok (.invokevirtual 41, 3) := by decide +kernel
theorem dL_mustSearch_7 : decode cL_mustSearch 7 = .ok (.ifCond .eq 7, 3) := by decide +kernel
theorem dL_mustSearch_10 : decode cL_mustSearch 10 = .ok (.lconst 1, 1) := by decide +kernel
theorem dL_mustSearch_11 : decode cL_mustSearch 11 = .ok (.goto 4, 3) := by decide +kernel
theorem dL_mustSearch_14 : decode cL_mustSearch 14 = .ok (.lconst 0, 1) := by decide +kernel
