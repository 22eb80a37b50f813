theorem dX7_init_0 : decode cX7_init 0 = .ok (.aload_n 0, 1) := by decide +kernel
theorem dX7_init_1 : decode cX7_init 1 = .ok (.invokespecial 1, 3) := by decide +kernel
theorem dX7_init_4 : decode cX7_init 4 = .ok (.aload_n 0, 1) := by decide +kernel
theorem dX7_init_5 : decode cX7_init 5 = .ok (.sipush 142, 3) := by decide +kernel
theorem dX7_init_8 : decode cX7_init 8 = .ok (.newarray .int, 2) := by decide +kernel
theorem dX7_init_10 : decode cX7_init 10 = .ok (.putfield 7, 3) := by decide +kernel
theorem dX7_init_13 : decode cX7_init 13 = .ok (.aload_n 0, 1) := by decide +kernel
theorem dX7_init_14 : decode cX7_init 14 = .ok (.sipush 142, 3) := by decide +kernel
theorem dX7_init_17 : decode cX7_init 17 = .ok (.newarray .int, 2) := by decide +kernel
theorem dX7_init_19 : decode cX7_init 19 = .ok (.putfield 13, 3) := by decide +kernel
theorem dX7_init_22 : decode cX7_init 22 = .ok (.aload_n 0, 1) := by decide +kernel
theorem dX7_init_23 : decode cX7_init 23 = .ok (.sipush 568, 3) := by decide +kernel
theorem dX7_init_26 : decode cX7_init 26 = .ok (.newarray .int, 2) := by decide +kernel
theorem dX7_init_28 : decode cX7_init 28 = .ok (.putfield 16, 3) := by decide +kernel
theorem dX7_init_31 : decode cX7_init 31 = .ok (.aload_n 0, 1) := by decide +kernel
theorem dX7_init_32 : decode cX7_init 32 = .ok (.sipush 142, 3) := by decide +kernel
theorem dX7_init_35 : decode cX7_init 35 = .ok (.newarray .int, 2) := by decide +kernel
theorem dX7_init_37 : decode cX7_init 37 = .ok (.putfield 19, 3) := by decide +kernel
theorem dX7_init_40 : decode cX7_init 40 = .ok (.aload_n 0, 1) := by decide +kernel
theorem dX7_init_41 : decode cX7_init 41 = .ok (.bipush 60, 2) := by decide +kernel
theorem dX7_init_43 : decode cX7_init 43 = .ok (.newarray .int, 2) := by decide +kernel
theorem dX7_init_45 : decode cX7_init 45 = .ok (.putfield 22, 3) := by decide +kernel
theorem dX7_init_48 : decode cX7_init 48 = .ok (.aload_n 0, 1) := by decide +kernel
theorem dX7_init_49 : decode cX7_init 49 = .ok (.iconst 3, 1) := by decide +kernel
theorem dX7_init_50 : decode cX7_init 50 = .ok (.newarray .int, 2) := by decide +kernel
theorem dX7_init_52 : decode cX7_init 52 = .ok (.putfield 25, 3) := by decide +kernel
theorem dX7_init_55 : decode cX7_init 55 = .ok (.aload_n 0, 1) := by decide +kernel
theorem dX7_init_56 : decode cX7_init 56 = .ok (.getfield 7, 3) := by decide +kernel
theorem dX7_init_59 : decode cX7_init 59 = .ok (.iconst 2, 1) := by decide +kernel
theorem dX7_init_60 : decode cX7_init 60 = .ok (.iconst 2, 1) := by decide +kernel
theorem dX7_init_61 : decode cX7_init 61 = .ok (.iastore, 1) := by decide +kernel
theorem dX7_init_62 : decode cX7_init 62 = .ok (.aload_n 0, 1) := by decide +kernel
theorem dX7_init_63 : decode cX7_init 63 = .ok (.getfield 7, 3) := by decide +kernel
theorem dX7_init_66 : decode cX7_init 66 = .ok (.iconst 3, 1) := by decide +kernel
theorem dX7_init_67 : decode cX7_init 67 = .ok (.iconst 1, 1) := by decide +kernel
theorem dX7_init_68 : decode cX7_init 68 = .ok (.iastore, 1) := by decide +kernel
theorem dX7_init_69 : decode cX7_init 69 = .ok (.iconst 0, 1) := by decide +kernel
theorem dX7_init_70 : decode cX7_init 70 = .ok (.istore_n 1, 1) := by decide +kernel
theorem dX7_init_71 : decode cX7_init 71 = .ok (.iload_n 1, 1) := by decide +kernel
theorem dX7_init_72 : decode cX7_init 72 = .ok (.iconst 4, 1) := by decide +kernel
theorem dX7_init_73 : decode cX7_init 73 = .ok (.if_icmp .ge 54, 3) := by decide +kernel
theorem dX7_init_76 : decode cX7_init 76 = .ok (.aload_n 0, 1) := by decide +kernel
theorem dX7_init_77 : decode cX7_init 77 = .ok (.getfield 7, 3) := by decide +kernel
theorem dX7_init_80 : decode cX7_init 80 = .ok (.bipush 10, 2) := by decide +kernel
theorem dX7_init_82 : decode cX7_init 82 = .ok (.iconst 5, 1) := by decide +kernel
theorem dX7_init_83 : decode cX7_init 83 = .ok (.iload_n 1, 1) := by decide +kernel
theorem dX7_init_84 : decode cX7_init 84 = .ok (.imul, 1) := by decide +kernel
theorem dX7_init_85 : decode cX7_init 85 = .ok (.iadd, 1) := by decide +kernel
theorem dX7_init_86 : decode cX7_init 86 = .ok (.iconst 0, 1) := by decide +kernel
theorem dX7_init_87 : decode cX7_init 87 = .ok (.iadd, 1) := by decide +kernel
theorem dX7_init_88 : decode cX7_init 88 = .ok (.iconst 3, 1) := by decide +kernel
theorem dX7_init_89 : decode cX7_init 89 = .ok (.iastore, 1) := by decide +kernel
theorem dX7_init_90 : decode cX7_init 90 = .ok (.aload_n 0, 1) := by decide +kernel
theorem dX7_init_91 : decode cX7_init 91 = .ok (.getfield 7, 3) := by decide +kernel
theorem dX7_init_94 : decode cX7_init 94 = .ok (.bipush 10, 2) := by decide +kernel
theorem dX7_init_96 : decode cX7_init 96 = .ok (.iconst 5, 1) := by decide +kernel
theorem dX7_init_97 : decode cX7_init 97 = .ok (.iload_n 1, 1) := by decide +kernel
theorem dX7_init_98 : decode cX7_init 98 = .ok (.imul, 1) := by decide +kernel
theorem dX7_init_99 : decode cX7_init 99 = .ok (.iadd, 1) := by decide +kernel
theorem dX7_init_100 : decode cX7_init 100 = .ok (.iconst 1, 1) := by decide +kernel
theorem dX7_init_101 : decode cX7_init 101 = .ok (.iadd, 1) := by decide +kernel
theorem dX7_init_102 : decode cX7_init 102 = .ok (.ldc 28, 2) := by decide +kernel
theorem dX7_init_104 : decode cX7_init 104 = .ok (.iastore, 1) := by decide +kernel
theorem dX7_init_105 : decode cX7_init 105 = .ok (.aload_n 0, 1) := by decide +kernel
theorem dX7_init_106 : decode cX7_init 106 = .ok (.getfield 7, 3) := by decide +kernel
theorem dX7_init_109 : decode cX7_init 109 = .ok (.bipush 10, 2) := by decide +kernel
theorem dX7_init_111 : decode cX7_init 111 = .ok (.iconst 5, 1) := by decide +kernel
theorem dX7_init_112 : decode cX7_init 112 = .ok (.iload_n 1, 1) := by decide +kernel
theorem dX7_init_113 : decode cX7_init 113 = .ok (.imul, 1) := by decide +kernel
theorem dX7_init_114 : decode cX7_init 114 = .ok (.iadd, 1) := by decide +kernel
theorem dX7_init_115 : decode cX7_init 115 = .ok (.iconst 3, 1) := by decide +kernel
theorem dX7_init_116 : decode cX7_init 116 = .ok (.iadd, 1) := by decide +kernel
theorem dX7_init_117 : decode cX7_init 117 = .ok (.iconst 5, 1) := by decide +kernel
theorem dX7_init_118 : decode cX7_init 118 = .ok (.iload_n 1, 1) := by decide +kernel
theorem dX7_init_119 : decode cX7_init 119 = .ok (.imul, 1) := by decide +kernel
theorem dX7_init_120 : decode cX7_init 120 = .ok (.iastore, 1) := by decide +kernel
theorem dX7_init_121 : decode cX7_init 121 = .ok (.iinc 1 1, 3) := by decide +kernel
theorem dX7_init_124 : decode cX7_init 124 = .ok (.goto (-53), 3) := by decide +kernel
theorem dX7_init_127 : decode cX7_init 127 = .ok (.iconst 0, 1) := by decide +kernel
theorem dX7_init_128 : decode cX7_init 128 = .ok (.istore_n 1, 1) := by decide +kernel
theorem dX7_init_129 : decode cX7_init 129 = .ok (.iload_n 1, 1) := by decide +kernel
theorem dX7_init_130 : decode cX7_init 130 = .ok (.bipush 28, 2) := by decide +kernel
theorem dX7_init_132 : decode cX7_init 132 = .ok (.if_icmp .ge 34, 3) := by decide +kernel
theorem dX7_init_135 : decode cX7_init 135 = .ok (.aload_n 0, 1) := by decide +kernel
theorem dX7_init_136 : decode cX7_init 136 = .ok (.getfield 7, 3) := by decide +kernel
theorem dX7_init_139 : decode cX7_init 139 = .ok (.bipush 30, 2) := by decide +kernel
theorem dX7_init_141 : decode cX7_init 141 = .ok (.iconst 4, 1) := by decide +kernel
theorem dX7_init_142 : decode cX7_init 142 = .ok (.iload_n 1, 1) := by decide +kernel
theorem dX7_init_143 : decode cX7_init 143 = .ok (.imul, 1) := by decide +kernel
theorem dX7_init_144 : decode cX7_init 144 = .ok (.iadd, 1) := by decide +kernel
theorem dX7_init_145 : decode cX7_init 145 = .ok (.iconst 0, 1) := by decide +kernel
theorem dX7_init_146 : decode cX7_init 146 = .ok (.iadd, 1) := by decide +kernel
theorem dX7_init_147 : decode cX7_init 147 = .ok (.iload_n 1, 1) := by decide +kernel
theorem dX7_init_148 : decode cX7_init 148 = .ok (.invokestatic 29, 3) := by decide +kernel
theorem dX7_init_151 : decode cX7_init 151 = .ok (.ifCond .eq 7, 3) := by decide +kernel
theorem dX7_init_154 : decode cX7_init 154 = .ok (.iconst 5, 1) := by decide +kernel
theorem dX7_init_155 : decode cX7_init 155 = .ok (.goto 4, 3) := by decide +kernel
theorem dX7_init_158 : decode cX7_init 158 = .ok (.iconst 0, 1) := by decide +kernel
theorem dX7_init_159 : decode cX7_init 159 = .ok (.iastore, 1) := by decide +kernel
theorem dX7_init_160 : decode cX7_init 160 = .ok (.iinc 1 1, 3) := by decide +kernel
theorem dX7_init_163 : decode cX7_init 163 = .ok (.goto (-34), 3) := by decide +kernel
theorem dX7_init_166 : decode cX7_init 166 = .ok (.return_, 1) := by decide +kernel
theorem dX7_in_0 : decode cX7_in 0 = .ok (.iload_n 0, 1) := by decide +kernel
theorem dX7_in_1 : decode cX7_in 1 = .ok (.iload_n 1, 1) := by decide +kernel
theorem dX7_in_2 : decode cX7_in 2 = .ok (.if_icmp .lt 12, 3) := by decide +kernel
theorem dX7_in_5 : decode cX7_in 5 = .ok (.iload_n 0, 1) := by decide +kernel
theorem dX7_in_6 : decode cX7_in 6 = .ok (.iload_n 2, 1) := by decide +kernel
theorem dX7_in_7 : decode cX7_in 7 = .ok (.if_icmp .gt 7, 3) := by decide +kernel
theorem dX7_in_10 : decode cX7_in 10 = .ok (.iconst 1, 1) := by decide +kernel
theorem dX7_in_11 : decode cX7_in 11 = .ok (.goto 4, 3) := by decide +kernel
theorem dX7_in_14 : decode cX7_in 14 = .ok (.iconst 0, 1) := by decide +kernel
theorem dX7_in_15 : decode cX7_in 15 = .ok (.ireturn, 1) := by decide +kernel
theorem dX7_copies_0 : decode cX7_copies 0 = .ok (.iconst 0, 1) := by decide +kernel
theorem dX7_copies_1 : decode cX7_copies 1 = .ok (.istore 4, 2) := by decide +kernel
theorem dX7_copies_3 : decode cX7_copies 3 = .ok (.iload 4, 2) := by decide +kernel
theorem dX7_copies_5 : decode cX7_copies 5 = .ok (.sipush 142, 3) := by decide +kernel
theorem dX7_copies_8 : decode cX7_copies 8 = .ok (.if_icmp .ge 21, 3) := by decide +kernel
theorem dX7_copies_11 : decode cX7_copies 11 = .ok (.aload_n 2, 1) := by decide +kernel
theorem dX7_copies_12 : decode cX7_copies 12 = .ok (.iload_n 3, 1) := by decide +kernel
theorem dX7_copies_13 : decode cX7_copies 13 = .ok (.iload 4, 2) := by decide +kernel
theorem dX7_copies_15 : decode cX7_copies 15 = .ok (.iadd, 1) := by decide +kernel
theorem dX7_copies_16 : decode cX7_copies 16 = .ok (.aload_n 0, 1) := by decide +kernel
theorem dX7_copies_17 : decode cX7_copies 17 = .ok (.iload_n 1, 1) := by decide +kernel
theorem dX7_copies_18 : decode cX7_copies 18 = .ok (.iload 4, 2) := by decide +kernel
theorem dX7_copies_20 : decode cX7_copies 20 = .ok (.iadd, 1) := by decide +kernel
theorem dX7_copies_21 : decode cX7_copies 21 = .ok (.iaload, 1) := by decide +kernel
theorem dX7_copies_22 : decode cX7_copies 22 = .ok (.iastore, 1) := by decide +kernel
theorem dX7_copies_23 : decode cX7_copies 23 = .ok (.iinc 4 1, 3) := by decide +kernel
theorem dX7_copies_26 : decode cX7_copies 26 = .ok (.goto (-23), 3) := by decide +kernel
theorem dX7_copies_29 : decode cX7_copies 29 = .ok (.return_, 1) := by decide +kernel
theorem dX7_records_0 : decode cX7_records 0 = .ok (.aload_n 0, 1) := by decide +kernel
theorem dX7_records_1 : decode cX7_records 1 = .ok (.getfield 33, 3) := by decide +kernel
theorem dX7_records_4 : decode cX7_records 4 = .ok (.iconst 4, 1) := by decide +kernel
theorem dX7_records_5 : decode cX7_records 5 = .ok (.if_icmp .ne 44, 3) := by decide +kernel
theorem dX7_records_8 : decode cX7_records 8 = .ok (.iconst 0, 1) := by decide +kernel
theorem dX7_records_9 : decode cX7_records 9 = .ok (.istore_n 1, 1) := by decide +kernel
theorem dX7_records_10 : decode cX7_records 10 = .ok (.iload_n 1, 1) := by decide +kernel
theorem dX7_records_11 : decode cX7_records 11 = .ok (.sipush 426, 3) := by decide +kernel
theorem dX7_records_14 : decode cX7_records 14 = .ok (.if_icmp .ge 25, 3) := by decide +kernel
theorem dX7_records_17 : decode cX7_records 17 = .ok (.aload_n 0, 1) := by decide +kernel
theorem dX7_records_18 : decode cX7_records 18 = .ok (.getfield 16, 3) := by decide +kernel
theorem dX7_records_21 : decode cX7_records 21 = .ok (.iload_n 1, 1) := by decide +kernel
theorem dX7_records_22 : decode cX7_records 22 = .ok (.aload_n 0, 1) := by decide +kernel
theorem dX7_records_23 : decode cX7_records 23 = .ok (.getfield 16, 3) := by decide +kernel
theorem dX7_records_26 : decode cX7_records 26 = .ok (.iload_n 1, 1) := by decide +kernel
theorem dX7_records_27 : decode cX7_records 27 = .ok (.sipush 142, 3) := by decide +kernel
theorem dX7_records_30 : decode cX7_records 30 = .ok (.iadd, 1) := by decide +kernel
theorem dX7_records_31 : decode cX7_records 31 = .ok (.iaload, 1) := by decide +kernel
theorem dX7_records_32 : decode cX7_records 32 = .ok (.iastore, 1) := by decide +kernel
theorem dX7_records_33 : decode cX7_records 33 = .ok (.iinc 1 1, 3) := by decide +kernel
theorem dX7_records_36 : decode cX7_records 36 = .ok (.goto (-26), 3) := by decide +kernel
theorem dX7_records_39 : decode cX7_records 39 = .ok (.aload_n 0, 1) := by decide +kernel
theorem dX7_records_40 : decode cX7_records 40 = .ok (.dup, 1) := by decide +kernel
theorem dX7_records_41 : decode cX7_records 41 = .ok (.getfield 33, 3) := by decide +kernel
theorem dX7_records_44 : decode cX7_records 44 = .ok (.iconst 1, 1) := by decide +kernel
theorem dX7_records_45 : decode cX7_records 45 = .ok (.isub, 1) := by decide +kernel
theorem dX7_records_46 : decode cX7_records 46 = .ok (.putfield 33, 3) := by decide +kernel
theorem dX7_records_49 : decode cX7_records 49 = .ok (.aload_n 0, 1) := by decide +kernel
theorem dX7_records_50 : decode cX7_records 50 = .ok (.getfield 7, 3) := by decide +kernel
theorem dX7_records_53 : decode cX7_records 53 = .ok (.iconst 0, 1) := by decide +kernel
theorem dX7_records_54 : decode cX7_records 54 = .ok (.aload_n 0, 1) := by decide +kernel
theorem dX7_records_55 : decode cX7_records 55 = .ok (.getfield 16, 3) := by decide +kernel
theorem dX7_records_58 : decode cX7_records 58 = .ok (.sipush 142, 3) := by decide +kernel
theorem dX7_records_61 : decode cX7_records 61 = .ok (.aload_n 0, 1) := by decide +kernel
theorem dX7_records_62 : decode cX7_records 62 = .ok (.getfield 33, 3) := by decide +kernel
theorem dX7_records_65 : decode cX7_records 65 = .ok (.imul, 1) := by decide +kernel
theorem dX7_records_66 : decode cX7_records 66 = .ok (.invokestatic 37, 3) := by decide +kernel
theorem dX7_records_69 : decode cX7_records 69 = .ok (.aload_n 0, 1) := by decide +kernel
theorem dX7_records_70 : decode cX7_records 70 = .ok (.dup, 1) := by decide +kernel
theorem dX7_records_71 : decode cX7_records 71 = .ok (.getfield 33, 3) := by decide +kernel
theorem dX7_records_74 : decode cX7_records 74 = .ok (.iconst 1, 1) := by decide +kernel
theorem dX7_records_75 : decode cX7_records 75 = .ok (.iadd, 1) := by decide +kernel
theorem dX7_records_76 : decode cX7_records 76 = .ok (.putfield 33, 3) := by decide +kernel
theorem dX7_records_79 : decode cX7_records 79 = .ok (.return_, 1) := by decide +kernel
theorem dX7_isRoof_0 : decode cX7_isRoof 0 = .ok (.iload_n 0, 1) := by decide +kernel
theorem dX7_isRoof_1 : decode cX7_isRoof 1 = .ok (.iconst 0, 1) := by decide +kernel
theorem dX7_isRoof_2 : decode cX7_isRoof 2 = .ok (.bipush 15, 2) := by decide +kernel
theorem dX7_isRoof_4 : decode cX7_isRoof 4 = .ok (.invokestatic 41, 3) := by decide +kernel
theorem dX7_isRoof_7 : decode cX7_isRoof 7 = .ok (.ireturn, 1) := by decide +kernel
theorem dX7_isOwner_0 : decode cX7_isOwner 0 = .ok (.iload_n 0, 1) := by decide +kernel
theorem dX7_isOwner_1 : decode cX7_isOwner 1 = .ok (.iconst 0, 1) := by decide +kernel
theorem dX7_isOwner_2 : decode cX7_isOwner 2 = .ok (.iconst 3, 1) := by decide +kernel
theorem dX7_isOwner_3 : decode cX7_isOwner 3 = .ok (.invokestatic 41, 3) := by decide +kernel
theorem dX7_isOwner_6 : decode cX7_isOwner 6 = .ok (.ireturn, 1) := by decide +kernel
theorem dX7_isGangway_0 : decode cX7_isGangway 0 = .ok (.iload_n 0, 1) := by decide +kernel
theorem dX7_isGangway_1 : decode cX7_isGangway 1 = .ok (.iconst 0, 1) := by decide +kernel
theorem dX7_isGangway_2 : decode cX7_isGangway 2 = .ok (.bipush 27, 2) := by decide +kernel
theorem dX7_isGangway_4 : decode cX7_isGangway 4 = .ok (.invokestatic 41, 3) := by decide +kernel
theorem dX7_isGangway_7 : decode cX7_isGangway 7 = .ok (.ifCond .eq 20, 3) := by decide +kernel
theorem dX7_isGangway_10 : decode cX7_isGangway 10 = .ok (.iload_n 0, 1) := by decide +kernel
theorem dX7_isGangway_11 : decode cX7_isGangway 11 = .ok (.bipush 16, 2) := by decide +kernel
theorem dX7_isGangway_13 : decode cX7_isGangway 13 = .ok (.if_icmp .ge 10, 3) := by decide +kernel
theorem dX7_isGangway_16 : decode cX7_isGangway 16 = .ok (.iload_n 0, 1) := by decide +kernel
theorem dX7_isGangway_17 : decode cX7_isGangway 17 = .ok (.iconst 4, 1) := by decide +kernel
theorem dX7_isGangway_18 : decode cX7_isGangway 18 = .ok (.irem, 1) := by decide +kernel
theorem dX7_isGangway_19 : decode cX7_isGangway 19 = .ok (.iconst 3, 1) := by decide +kernel
theorem dX7_isGangway_20 : decode cX7_isGangway 20 = .ok (.if_icmp .ge 7, 3) := by decide +kernel
theorem dX7_isGangway_23 : decode cX7_isGangway 23 = .ok (.iconst 1, 1) := by decide +kernel
theorem dX7_isGangway_24 : decode cX7_isGangway 24 = .ok (.goto 4, 3) := by decide +kernel
theorem dX7_isGangway_27 : decode cX7_isGangway 27 = .ok (.iconst 0, 1) := by decide +kernel
theorem dX7_isGangway_28 : decode cX7_isGangway 28 = .ok (.ireturn, 1) := by decide +kernel
theorem dX7_lesserOf_0 : decode cX7_lesserOf 0 = .ok (.iload_n 0, 1) := by decide +kernel
theorem dX7_lesserOf_1 : decode cX7_lesserOf 1 = .ok (.bipush 16, 2) := by decide +kernel
theorem dX7_lesserOf_3 : decode cX7_lesserOf 3 = .ok (.if_icmp .ge 7, 3) := by decide +kernel
theorem dX7_lesserOf_6 : decode cX7_lesserOf 6 = .ok (.iload_n 0, 1) := by decide +kernel
theorem dX7_lesserOf_7 : decode cX7_lesserOf 7 = .ok (.goto 7, 3) := by decide +kernel
theorem dX7_lesserOf_10 : decode cX7_lesserOf 10 = .ok (.iload_n 0, 1) := by decide +kernel
theorem dX7_lesserOf_11 : decode cX7_lesserOf 11 = .ok (.bipush 16, 2) := by decide +kernel
theorem dX7_lesserOf_13 : decode cX7_lesserOf 13 = .ok (.isub, 1) := by decide +kernel
theorem dX7_lesserOf_14 : decode cX7_lesserOf 14 = .ok (.ireturn, 1) := by decide +kernel
theorem dX7_greaterOf_0 : decode cX7_greaterOf 0 = .ok (.iload_n 0, 1) := by decide +kernel
theorem dX7_greaterOf_1 : decode cX7_greaterOf 1 = .ok (.bipush 16, 2) := by decide +kernel
theorem dX7_greaterOf_3 : decode cX7_greaterOf 3 = .ok (.if_icmp .ge 9, 3) := by decide +kernel
theorem dX7_greaterOf_6 : decode cX7_greaterOf 6 = .ok (.iload_n 0, 1) := by decide +kernel
theorem dX7_greaterOf_7 : decode cX7_greaterOf 7 = .ok (.iconst 1, 1) := by decide +kernel
theorem dX7_greaterOf_8 : decode cX7_greaterOf 8 = .ok (.iadd, 1) := by decide +kernel
theorem dX7_greaterOf_9 : decode cX7_greaterOf 9 = .ok (.goto 9, 3) := by decide +kernel
theorem dX7_greaterOf_12 : decode cX7_greaterOf 12 = .ok (.iload_n 0, 1) := by decide +kernel
theorem dX7_greaterOf_13 : decode cX7_greaterOf 13 = .ok (.bipush 16, 2) := by decide +kernel
theorem dX7_greaterOf_15 : decode cX7_greaterOf 15 = .ok (.isub, 1) := by decide +kernel
theorem dX7_greaterOf_16 : decode cX7_greaterOf 16 = .ok (.iconst 4, 1) := by decide +kernel
theorem dX7_greaterOf_17 : decode cX7_greaterOf 17 = .ok (.iadd, 1) := by decide +kernel
theorem dX7_greaterOf_18 : decode cX7_greaterOf 18 = .ok (.ireturn, 1) := by decide +kernel
theorem dX7_isOfRoof_0 : decode cX7_isOfRoof 0 = .ok (.iload_n 0, 1) := by decide +kernel
theorem dX7_isOfRoof_1 : decode cX7_isOfRoof 1 = .ok (.invokestatic 29, 3) := by decide +kernel
theorem dX7_isOfRoof_4 : decode cX7_isOfRoof 4 = .ok (.ifCond .eq 23, 3) := by decide +kernel
theorem dX7_isOfRoof_7 : decode cX7_isOfRoof 7 = .ok (.iload_n 0, 1) := by decide +kernel
theorem dX7_isOfRoof_8 : decode cX7_isOfRoof 8 = .ok (.invokestatic 45, 3) := by decide +kernel
theorem dX7_isOfRoof_11 : decode cX7_isOfRoof 11 = .ok (.iload_n 1, 1) := by decide +kernel
theorem dX7_isOfRoof_12 : decode cX7_isOfRoof 12 = .ok (.if_icmp .eq 11, 3) := by decide +kernel
theorem dX7_isOfRoof_15 : decode cX7_isOfRoof 15 = .ok (.iload_n 0, 1) := by decide +kernel
theorem dX7_isOfRoof_16 : decode cX7_isOfRoof 16 = .ok (.invokestatic 49, 3) := by decide +kernel
theorem dX7_isOfRoof_19 : decode cX7_isOfRoof 19 = .ok (.iload_n 1, 1) := by decide +kernel
theorem dX7_isOfRoof_20 : decode cX7_isOfRoof 20 = .ok (.if_icmp .ne 7, 3) := by decide +kernel
theorem dX7_isOfRoof_23 : decode cX7_isOfRoof 23 = .ok (.iconst 1, 1) := by decide +kernel
theorem dX7_isOfRoof_24 : decode cX7_isOfRoof 24 = .ok (.goto 4, 3) := by decide +kernel
theorem dX7_isOfRoof_27 : decode cX7_isOfRoof 27 = .ok (.iconst 0, 1) := by decide +kernel
theorem dX7_isOfRoof_28 : decode cX7_isOfRoof 28 = .ok (.ireturn, 1) := by decide +kernel
theorem dX7_otherOf_0 : decode cX7_otherOf 0 = .ok (.iload_n 0, 1) := by decide +kernel
theorem dX7_otherOf_1 : decode cX7_otherOf 1 = .ok (.invokestatic 45, 3) := by decide +kernel
theorem dX7_otherOf_4 : decode cX7_otherOf 4 = .ok (.iload_n 1, 1) := by decide +kernel
theorem dX7_otherOf_5 : decode cX7_otherOf 5 = .ok (.if_icmp .ne 10, 3) := by decide +kernel
theorem dX7_otherOf_8 : decode cX7_otherOf 8 = .ok (.iload_n 0, 1) := by decide +kernel
theorem dX7_otherOf_9 : decode cX7_otherOf 9 = .ok (.invokestatic 49, 3) := by decide +kernel
theorem dX7_otherOf_12 : decode cX7_otherOf 12 = .ok (.goto 7, 3) := by decide +kernel
theorem dX7_otherOf_15 : decode cX7_otherOf 15 = .ok (.iload_n 0, 1) := by decide +kernel
theorem dX7_otherOf_16 : decode cX7_otherOf 16 = .ok (.invokestatic 45, 3) := by decide +kernel
theorem dX7_otherOf_19 : decode cX7_otherOf 19 = .ok (.ireturn, 1) := by decide +kernel
theorem dX7_isIn_0 : decode cX7_isIn 0 = .ok (.iload_n 0, 1) := by decide +kernel
theorem dX7_isIn_1 : decode cX7_isIn 1 = .ok (.iload_n 1, 1) := by decide +kernel
theorem dX7_isIn_2 : decode cX7_isIn 2 = .ok (.ishr, 1) := by decide +kernel
theorem dX7_isIn_3 : decode cX7_isIn 3 = .ok (.iconst 1, 1) := by decide +kernel
theorem dX7_isIn_4 : decode cX7_isIn 4 = .ok (.iand, 1) := by decide +kernel
theorem dX7_isIn_5 : decode cX7_isIn 5 = .ok (.iconst 1, 1) := by decide +kernel
theorem dX7_isIn_6 : decode cX7_isIn 6 = .ok (.if_icmp .ne 7, 3) := by decide +kernel
theorem dX7_isIn_9 : decode cX7_isIn 9 = .ok (.iconst 1, 1) := by decide +kernel
theorem dX7_isIn_10 : decode cX7_isIn 10 = .ok (.goto 4, 3) := by decide +kernel
theorem dX7_isIn_13 : decode cX7_isIn 13 = .ok (.iconst 0, 1) := by decide +kernel
theorem dX7_isIn_14 : decode cX7_isIn 14 = .ok (.ireturn, 1) := by decide +kernel
theorem dX7_ones_0 : decode cX7_ones 0 = .ok (.iconst 0, 1) := by decide +kernel
theorem dX7_ones_1 : decode cX7_ones 1 = .ok (.istore_n 1, 1) := by decide +kernel
theorem dX7_ones_2 : decode cX7_ones 2 = .ok (.iconst 0, 1) := by decide +kernel
theorem dX7_ones_3 : decode cX7_ones 3 = .ok (.istore_n 2, 1) := by decide +kernel
theorem dX7_ones_4 : decode cX7_ones 4 = .ok (.iload_n 2, 1) := by decide +kernel
theorem dX7_ones_5 : decode cX7_ones 5 = .ok (.bipush 16, 2) := by decide +kernel
theorem dX7_ones_7 : decode cX7_ones 7 = .ok (.if_icmp .ge 17, 3) := by decide +kernel
theorem dX7_ones_10 : decode cX7_ones 10 = .ok (.iload_n 1, 1) := by decide +kernel
theorem dX7_ones_11 : decode cX7_ones 11 = .ok (.iload_n 0, 1) := by decide +kernel
theorem dX7_ones_12 : decode cX7_ones 12 = .ok (.iload_n 2, 1) := by decide +kernel
theorem dX7_ones_13 : decode cX7_ones 13 = .ok (.ishr, 1) := by decide +kernel
theorem dX7_ones_14 : decode cX7_ones 14 = .ok (.iconst 1, 1) := by decide +kernel
theorem dX7_ones_15 : decode cX7_ones 15 = .ok (.iand, 1) := by decide +kernel
theorem dX7_ones_16 : decode cX7_ones 16 = .ok (.iadd, 1) := by decide +kernel
theorem dX7_ones_17 : decode cX7_ones 17 = .ok (.istore_n 1, 1) := by decide +kernel
theorem dX7_ones_18 : decode cX7_ones 18 = .ok (.iinc 2 1, 3) := by decide +kernel
theorem dX7_ones_21 : decode cX7_ones 21 = .ok (.goto (-17), 3) := by decide +kernel
theorem dX7_ones_24 : decode cX7_ones 24 = .ok (.iload_n 1, 1) := by decide +kernel
theorem dX7_ones_25 : decode cX7_ones 25 = .ok (.ireturn, 1) := by decide +kernel
theorem dX7_of_0 : decode cX7_of 0 = .ok (.aload_n 0, 1) := by decide +kernel
theorem dX7_of_1 : decode cX7_of 1 = .ok (.getfield 7, 3) := by decide +kernel
theorem dX7_of_4 : decode cX7_of 4 = .ok (.bipush 30, 2) := by decide +kernel
theorem dX7_of_6 : decode cX7_of 6 = .ok (.iconst 4, 1) := by decide +kernel
theorem dX7_of_7 : decode cX7_of 7 = .ok (.iload_n 1, 1) := by decide +kernel
theorem dX7_of_8 : decode cX7_of 8 = .ok (.imul, 1) := by decide +kernel
theorem dX7_of_9 : decode cX7_of 9 = .ok (.iadd, 1) := by decide +kernel
theorem dX7_of_10 : decode cX7_of 10 = .ok (.iload_n 2, 1) := by decide +kernel
theorem dX7_of_11 : decode cX7_of 11 = .ok (.iadd, 1) := by decide +kernel
theorem dX7_of_12 : decode cX7_of 12 = .ok (.iaload, 1) := by decide +kernel
theorem dX7_of_13 : decode cX7_of 13 = .ok (.ireturn, 1) := by decide +kernel
theorem dX7_lays_0 : decode cX7_lays 0 = .ok (.aload_n 0, 1) := by decide +kernel
theorem dX7_lays_1 : decode cX7_lays 1 = .ok (.getfield 7, 3) := by decide +kernel
theorem dX7_lays_4 : decode cX7_lays 4 = .ok (.bipush 30, 2) := by decide +kernel
theorem dX7_lays_6 : decode cX7_lays 6 = .ok (.iconst 4, 1) := by decide +kernel
theorem dX7_lays_7 : decode cX7_lays 7 = .ok (.iload_n 1, 1) := by decide +kernel
theorem dX7_lays_8 : decode cX7_lays 8 = .ok (.imul, 1) := by decide +kernel
theorem dX7_lays_9 : decode cX7_lays 9 = .ok (.iadd, 1) := by decide +kernel
theorem dX7_lays_10 : decode cX7_lays 10 = .ok (.iload_n 2, 1) := by decide +kernel
theorem dX7_lays_11 : decode cX7_lays 11 = .ok (.iadd, 1) := by decide +kernel
theorem dX7_lays_12 : decode cX7_lays 12 = .ok (.iload_n 3, 1) := by decide +kernel
theorem dX7_lays_13 : decode cX7_lays 13 = .ok (.iastore, 1) := by decide +kernel
theorem dX7_lays_14 : decode cX7_lays 14 = .ok (.return_, 1) := by decide +kernel
theorem dX7_ofOwner_0 : decode cX7_ofOwner 0 = .ok (.aload_n 0, 1) := by decide +kernel
theorem dX7_ofOwner_1 : decode cX7_ofOwner 1 = .ok (.getfield 7, 3) := by decide +kernel
theorem dX7_ofOwner_4 : decode cX7_ofOwner 4 = .ok (.bipush 10, 2) := by decide +kernel
theorem dX7_ofOwner_6 : decode cX7_ofOwner 6 = .ok (.iconst 5, 1) := by decide +kernel
theorem dX7_ofOwner_7 : decode cX7_ofOwner 7 = .ok (.iload_n 1, 1) := by decide +kernel
theorem dX7_ofOwner_8 : decode cX7_ofOwner 8 = .ok (.imul, 1) := by decide +kernel
theorem dX7_ofOwner_9 : decode cX7_ofOwner 9 = .ok (.iadd, 1) := by decide +kernel
theorem dX7_ofOwner_10 : decode cX7_ofOwner 10 = .ok (.iload_n 2, 1) := by decide +kernel
theorem dX7_ofOwner_11 : decode cX7_ofOwner 11 = .ok (.iadd, 1) := by decide +kernel
theorem dX7_ofOwner_12 : decode cX7_ofOwner 12 = .ok (.iaload, 1) := by decide +kernel
theorem dX7_ofOwner_13 : decode cX7_ofOwner 13 = .ok (.ireturn, 1) := by decide +kernel
theorem dX7_hasLine_0 : decode cX7_hasLine 0 = .ok (.aload_n 0, 1) := by decide +kernel
theorem dX7_hasLine_1 : decode cX7_hasLine 1 = .ok (.iload_n 1, 1) := by decide +kernel
theorem dX7_hasLine_2 : decode cX7_hasLine 2 = .ok (.iconst 1, 1) := by decide +kernel
theorem dX7_hasLine_3 : decode cX7_hasLine 3 = .ok (.invokevirtual 52, 3) := by decide +kernel
theorem dX7_hasLine_6 : decode cX7_hasLine 6 = .ok (.ifCond .le 7, 3) := by decide +kernel
theorem dX7_hasLine_9 : decode cX7_hasLine 9 = .ok (.iconst 1, 1) := by decide +kernel
theorem dX7_hasLine_10 : decode cX7_hasLine 10 = .ok (.goto 4, 3) := by decide +kernel
theorem dX7_hasLine_13 : decode cX7_hasLine 13 = .ok (.iconst 0, 1) := by decide +kernel
theorem dX7_hasLine_14 : decode cX7_hasLine 14 = .ok (.ireturn, 1) := by decide +kernel
theorem dX7_isClean_0 : decode cX7_isClean 0 = .ok (.aload_n 0, 1) := by decide +kernel
theorem dX7_isClean_1 : decode cX7_isClean 1 = .ok (.iload_n 1, 1) := by decide +kernel
theorem dX7_isClean_2 : decode cX7_isClean 2 = .ok (.invokevirtual 56, 3) := by decide +kernel
theorem dX7_isClean_5 : decode cX7_isClean 5 = .ok (.ifCond .eq 23, 3) := by decide +kernel
theorem dX7_isClean_8 : decode cX7_isClean 8 = .ok (.aload_n 0, 1) := by decide +kernel
theorem dX7_isClean_9 : decode cX7_isClean 9 = .ok (.iload_n 1, 1) := by decide +kernel
theorem dX7_isClean_10 : decode cX7_isClean 10 = .ok (.iconst 2, 1) := by decide +kernel
theorem dX7_isClean_11 : decode cX7_isClean 11 = .ok (.invokevirtual 52, 3) := by decide +kernel
theorem dX7_isClean_14 : decode cX7_isClean 14 = .ok (.aload_n 0, 1) := by decide +kernel
theorem dX7_isClean_15 : decode cX7_isClean 15 = .ok (.iload_n 1, 1) := by decide +kernel
theorem dX7_isClean_16 : decode cX7_isClean 16 = .ok (.iconst 3, 1) := by decide +kernel
theorem dX7_isClean_17 : decode cX7_isClean 17 = .ok (.invokevirtual 52, 3) := by decide +kernel
theorem dX7_isClean_20 : decode cX7_isClean 20 = .ok (.iadd, 1) := by decide +kernel
theorem dX7_isClean_21 : decode cX7_isClean 21 = .ok (.ifCond .ne 7, 3) := by decide +kernel
theorem dX7_isClean_24 : decode cX7_isClean 24 = .ok (.iconst 1, 1) := by decide +kernel
theorem dX7_isClean_25 : decode cX7_isClean 25 = .ok (.goto 4, 3) := by decide +kernel
theorem dX7_isClean_28 : decode cX7_isClean 28 = .ok (.iconst 0, 1) := by decide +kernel
theorem dX7_isClean_29 : decode cX7_isClean 29 = .ok (.ireturn, 1) := by decide +kernel
theorem dX7_bothOf_0 : decode cX7_bothOf 0 = .ok (.iconst 1, 1) := by decide +kernel
theorem dX7_bothOf_1 : decode cX7_bothOf 1 = .ok (.iload_n 1, 1) := by decide +kernel
theorem dX7_bothOf_2 : decode cX7_bothOf 2 = .ok (.invokestatic 45, 3) := by decide +kernel
theorem dX7_bothOf_5 : decode cX7_bothOf 5 = .ok (.ishl, 1) := by decide +kernel
theorem dX7_bothOf_6 : decode cX7_bothOf 6 = .ok (.iconst 1, 1) := by decide +kernel
theorem dX7_bothOf_7 : decode cX7_bothOf 7 = .ok (.iload_n 1, 1) := by decide +kernel
theorem dX7_bothOf_8 : decode cX7_bothOf 8 = .ok (.invokestatic 49, 3) := by decide +kernel
theorem dX7_bothOf_11 : decode cX7_bothOf 11 = .ok (.ishl, 1) := by decide +kernel
theorem dX7_bothOf_12 : decode cX7_bothOf 12 = .ok (.ior, 1) := by decide +kernel
theorem dX7_bothOf_13 : decode cX7_bothOf 13 = .ok (.ireturn, 1) := by decide +kernel
theorem dX7_nextTo_0 : decode cX7_nextTo 0 = .ok (.iload_n 0, 1) := by decide +kernel
theorem dX7_nextTo_1 : decode cX7_nextTo 1 = .ok (.iconst 4, 1) := by decide +kernel
theorem dX7_nextTo_2 : decode cX7_nextTo 2 = .ok (.idiv, 1) := by decide +kernel
theorem dX7_nextTo_3 : decode cX7_nextTo 3 = .ok (.istore_n 2, 1) := by decide +kernel
theorem dX7_nextTo_4 : decode cX7_nextTo 4 = .ok (.iload_n 0, 1) := by decide +kernel
theorem dX7_nextTo_5 : decode cX7_nextTo 5 = .ok (.iconst 4, 1) := by decide +kernel
theorem dX7_nextTo_6 : decode cX7_nextTo 6 = .ok (.irem, 1) := by decide +kernel
theorem dX7_nextTo_7 : decode cX7_nextTo 7 = .ok (.istore_n 3, 1) := by decide +kernel
theorem dX7_nextTo_8 : decode cX7_nextTo 8 = .ok (.iload_n 1, 1) := by decide +kernel
theorem dX7_nextTo_9 : decode cX7_nextTo 9 = .ok (.tableswitch 68 0 2 #[27, 41, 55], 27) := by decide +kernel
theorem dX7_nextTo_36 : decode cX7_nextTo 36 = .ok (.iload_n 3, 1) := by decide +kernel
theorem dX7_nextTo_37 : decode cX7_nextTo 37 = .ok (.iconst 3, 1) := by decide +kernel
theorem dX7_nextTo_38 : decode cX7_nextTo 38 = .ok (.if_icmp .ne 8, 3) := by decide +kernel
theorem dX7_nextTo_41 : decode cX7_nextTo 41 = .ok (.bipush (-4), 2) := by decide +kernel
theorem dX7_nextTo_43 : decode cX7_nextTo 43 = .ok (.goto 6, 3) := by decide +kernel
theorem dX7_nextTo_46 : decode cX7_nextTo 46 = .ok (.iload_n 0, 1) := by decide +kernel
theorem dX7_nextTo_47 : decode cX7_nextTo 47 = .ok (.iconst 1, 1) := by decide +kernel
theorem dX7_nextTo_48 : decode cX7_nextTo 48 = .ok (.iadd, 1) := by decide +kernel
theorem dX7_nextTo_49 : decode cX7_nextTo 49 = .ok (.ireturn, 1) := by decide +kernel
theorem dX7_nextTo_50 : decode cX7_nextTo 50 = .ok (.iload_n 2, 1) := by decide +kernel
theorem dX7_nextTo_51 : decode cX7_nextTo 51 = .ok (.iconst 3, 1) := by decide +kernel
theorem dX7_nextTo_52 : decode cX7_nextTo 52 = .ok (.if_icmp .ne 8, 3) := by decide +kernel
theorem dX7_nextTo_55 : decode cX7_nextTo 55 = .ok (.bipush (-4), 2) := by decide +kernel
theorem dX7_nextTo_57 : decode cX7_nextTo 57 = .ok (.goto 6, 3) := by decide +kernel
theorem dX7_nextTo_60 : decode cX7_nextTo 60 = .ok (.iload_n 0, 1) := by decide +kernel
theorem dX7_nextTo_61 : decode cX7_nextTo 61 = .ok (.iconst 4, 1) := by decide +kernel
theorem dX7_nextTo_62 : decode cX7_nextTo 62 = .ok (.iadd, 1) := by decide +kernel
theorem dX7_nextTo_63 : decode cX7_nextTo 63 = .ok (.ireturn, 1) := by decide +kernel
theorem dX7_nextTo_64 : decode cX7_nextTo 64 = .ok (.iload_n 3, 1) := by decide +kernel
theorem dX7_nextTo_65 : decode cX7_nextTo 65 = .ok (.ifCond .ne 8, 3) := by decide +kernel
theorem dX7_nextTo_68 : decode cX7_nextTo 68 = .ok (.bipush (-4), 2) := by decide +kernel
theorem dX7_nextTo_70 : decode cX7_nextTo 70 = .ok (.goto 6, 3) := by decide +kernel
theorem dX7_nextTo_73 : decode cX7_nextTo 73 = .ok (.iload_n 0, 1) := by decide +kernel
theorem dX7_nextTo_74 : decode cX7_nextTo 74 = .ok (.iconst 1, 1) := by decide +kernel
theorem dX7_nextTo_75 : decode cX7_nextTo 75 = .ok (.isub, 1) := by decide +kernel
theorem dX7_nextTo_76 : decode cX7_nextTo 76 = .ok (.ireturn, 1) := by decide +kernel
theorem dX7_nextTo_77 : decode cX7_nextTo 77 = .ok (.iload_n 2, 1) := by decide +kernel
theorem dX7_nextTo_78 : decode cX7_nextTo 78 = .ok (.ifCond .ne 8, 3) := by decide +kernel
theorem dX7_nextTo_81 : decode cX7_nextTo 81 = .ok (.bipush (-4), 2) := by decide +kernel
theorem dX7_nextTo_83 : decode cX7_nextTo 83 = .ok (.goto 6, 3) := by decide +kernel
theorem dX7_nextTo_86 : decode cX7_nextTo 86 = .ok (.iload_n 0, 1) := by decide +kernel
theorem dX7_nextTo_87 : decode cX7_nextTo 87 = .ok (.iconst 4, 1) := by decide +kernel
theorem dX7_nextTo_88 : decode cX7_nextTo 88 = .ok (.isub, 1) := by decide +kernel
theorem dX7_nextTo_89 : decode cX7_nextTo 89 = .ok (.ireturn, 1) := by decide +kernel
theorem dX7_smokeOf_0 : decode cX7_smokeOf 0 = .ok (.iconst 1, 1) := by decide +kernel
theorem dX7_smokeOf_1 : decode cX7_smokeOf 1 = .ok (.iload_n 1, 1) := by decide +kernel
theorem dX7_smokeOf_2 : decode cX7_smokeOf 2 = .ok (.ishl, 1) := by decide +kernel
theorem dX7_smokeOf_3 : decode cX7_smokeOf 3 = .ok (.istore_n 3, 1) := by decide +kernel
theorem dX7_smokeOf_4 : decode cX7_smokeOf 4 = .ok (.iload_n 1, 1) := by decide +kernel
theorem dX7_smokeOf_5 : decode cX7_smokeOf 5 = .ok (.istore 4, 2) := by decide +kernel
theorem dX7_smokeOf_7 : decode cX7_smokeOf 7 = .ok (.iconst 0, 1) := by decide +kernel
theorem dX7_smokeOf_8 : decode cX7_smokeOf 8 = .ok (.istore 5, 2) := by decide +kernel
theorem dX7_smokeOf_10 : decode cX7_smokeOf 10 = .ok (.iload 5, 2) := by decide +kernel
theorem dX7_smokeOf_12 : decode cX7_smokeOf 12 = .ok (.aload_n 0, 1) := by decide +kernel
theorem dX7_smokeOf_13 : decode cX7_smokeOf 13 = .ok (.getfield 7, 3) := by decide +kernel
theorem dX7_smokeOf_16 : decode cX7_smokeOf 16 = .ok (.iconst 2, 1) := by decide +kernel
theorem dX7_smokeOf_17 : decode cX7_smokeOf 17 = .ok (.iaload, 1) := by decide +kernel
theorem dX7_smokeOf_18 : decode cX7_smokeOf 18 = .ok (.if_icmp .ge 38, 3) := by decide +kernel
theorem dX7_smokeOf_21 : decode cX7_smokeOf 21 = .ok (.iload 4, 2) := by decide +kernel
theorem dX7_smokeOf_23 : decode cX7_smokeOf 23 = .ok (.ifCond .lt 33, 3) := by decide +kernel
theorem dX7_smokeOf_26 : decode cX7_smokeOf 26 = .ok (.iload 4, 2) := by decide +kernel
theorem dX7_smokeOf_28 : decode cX7_smokeOf 28 = .ok (.iload_n 2, 1) := by decide +kernel
theorem dX7_smokeOf_29 : decode cX7_smokeOf 29 = .ok (.invokestatic 59, 3) := by decide +kernel
theorem dX7_smokeOf_32 : decode cX7_smokeOf 32 = .ok (.istore 4, 2) := by decide +kernel
theorem dX7_smokeOf_34 : decode cX7_smokeOf 34 = .ok (.iload_n 3, 1) := by decide +kernel
theorem dX7_smokeOf_35 : decode cX7_smokeOf 35 = .ok (.iload 4, 2) := by decide +kernel
theorem dX7_smokeOf_37 : decode cX7_smokeOf 37 = .ok (.ifCond .ge 7, 3) := by decide +kernel
theorem dX7_smokeOf_40 : decode cX7_smokeOf 40 = .ok (.iconst 0, 1) := by decide +kernel
theorem dX7_smokeOf_41 : decode cX7_smokeOf 41 = .ok (.goto 7, 3) := by decide +kernel
theorem dX7_smokeOf_44 : decode cX7_smokeOf 44 = .ok (.iconst 1, 1) := by decide +kernel
theorem dX7_smokeOf_45 : decode cX7_smokeOf 45 = .ok (.iload 4, 2) := by decide +kernel
theorem dX7_smokeOf_47 : decode cX7_smokeOf 47 = .ok (.ishl, 1) := by decide +kernel
theorem dX7_smokeOf_48 : decode cX7_smokeOf 48 = .ok (.ior, 1) := by decide +kernel
theorem dX7_smokeOf_49 : decode cX7_smokeOf 49 = .ok (.istore_n 3, 1) := by decide +kernel
theorem dX7_smokeOf_50 : decode cX7_smokeOf 50 = .ok (.iinc 5 1, 3) := by decide +kernel
theorem dX7_smokeOf_53 : decode cX7_smokeOf 53 = .ok (.goto (-43), 3) := by decide +kernel
theorem dX7_smokeOf_56 : decode cX7_smokeOf 56 = .ok (.iload_n 3, 1) := by decide +kernel
theorem dX7_smokeOf_57 : decode cX7_smokeOf 57 = .ok (.ireturn, 1) := by decide +kernel
theorem dX7_smokeBy_0 : decode cX7_smokeBy 0 = .ok (.iconst 0, 1) := by decide +kernel
theorem dX7_smokeBy_1 : decode cX7_smokeBy 1 = .ok (.istore_n 2, 1) := by decide +kernel
theorem dX7_smokeBy_2 : decode cX7_smokeBy 2 = .ok (.iconst 0, 1) := by decide +kernel
theorem dX7_smokeBy_3 : decode cX7_smokeBy 3 = .ok (.istore_n 3, 1) := by decide +kernel
theorem dX7_smokeBy_4 : decode cX7_smokeBy 4 = .ok (.iload_n 3, 1) := by decide +kernel
theorem dX7_smokeBy_5 : decode cX7_smokeBy 5 = .ok (.bipush 16, 2) := by decide +kernel
theorem dX7_smokeBy_7 : decode cX7_smokeBy 7 = .ok (.if_icmp .ge 36, 3) := by decide +kernel
theorem dX7_smokeBy_10 : decode cX7_smokeBy 10 = .ok (.iload_n 2, 1) := by decide +kernel
theorem dX7_smokeBy_11 : decode cX7_smokeBy 11 = .ok (.aload_n 0, 1) := by decide +kernel
theorem dX7_smokeBy_12 : decode cX7_smokeBy 12 = .ok (.getfield 7, 3) := by decide +kernel
theorem dX7_smokeBy_15 : decode cX7_smokeBy 15 = .ok (.bipush 8, 2) := by decide +kernel
theorem dX7_smokeBy_17 : decode cX7_smokeBy 17 = .ok (.iaload, 1) := by decide +kernel
theorem dX7_smokeBy_18 : decode cX7_smokeBy 18 = .ok (.iload_n 3, 1) := by decide +kernel
theorem dX7_smokeBy_19 : decode cX7_smokeBy 19 = .ok (.invokestatic 62, 3) := by decide +kernel
theorem dX7_smokeBy_22 : decode cX7_smokeBy 22 = .ok (.ifCond .eq 12, 3) := by decide +kernel
theorem dX7_smokeBy_25 : decode cX7_smokeBy 25 = .ok (.aload_n 0, 1) := by decide +kernel
theorem dX7_smokeBy_26 : decode cX7_smokeBy 26 = .ok (.iload_n 3, 1) := by decide +kernel
theorem dX7_smokeBy_27 : decode cX7_smokeBy 27 = .ok (.iload_n 1, 1) := by decide +kernel
theorem dX7_smokeBy_28 : decode cX7_smokeBy 28 = .ok (.invokevirtual 66, 3) := by decide +kernel
theorem dX7_smokeBy_31 : decode cX7_smokeBy 31 = .ok (.goto 4, 3) := by decide +kernel
theorem dX7_smokeBy_34 : decode cX7_smokeBy 34 = .ok (.iconst 0, 1) := by decide +kernel
theorem dX7_smokeBy_35 : decode cX7_smokeBy 35 = .ok (.ior, 1) := by decide +kernel
theorem dX7_smokeBy_36 : decode cX7_smokeBy 36 = .ok (.istore_n 2, 1) := by decide +kernel
theorem dX7_smokeBy_37 : decode cX7_smokeBy 37 = .ok (.iinc 3 1, 3) := by decide +kernel
theorem dX7_smokeBy_40 : decode cX7_smokeBy 40 = .ok (.goto (-36), 3) := by decide +kernel
theorem dX7_smokeBy_43 : decode cX7_smokeBy 43 = .ok (.iload_n 2, 1) := by decide +kernel
theorem dX7_smokeBy_44 : decode cX7_smokeBy 44 = .ok (.ireturn, 1) := by decide +kernel
theorem dX7_smoke_0 : decode cX7_smoke 0 = .ok (.aload_n 0, 1) := by decide +kernel
theorem dX7_smoke_1 : decode cX7_smoke 1 = .ok (.aload_n 0, 1) := by decide +kernel
theorem dX7_smoke_2 : decode cX7_smoke 2 = .ok (.getfield 7, 3) := by decide +kernel
theorem dX7_smoke_5 : decode cX7_smoke 5 = .ok (.iconst 1, 1) := by decide +kernel
theorem dX7_smoke_6 : decode cX7_smoke 6 = .ok (.iaload, 1) := by decide +kernel
theorem dX7_smoke_7 : decode cX7_smoke 7 = .ok (.invokevirtual 69, 3) := by decide +kernel
theorem dX7_smoke_10 : decode cX7_smoke 10 = .ok (.ireturn, 1) := by decide +kernel
theorem dX7_nearCoops_0 : decode cX7_nearCoops 0 = .ok (.aload_n 0, 1) := by decide +kernel
theorem dX7_nearCoops_1 : decode cX7_nearCoops 1 = .ok (.getfield 7, 3) := by decide +kernel
theorem dX7_nearCoops_4 : decode cX7_nearCoops 4 = .ok (.bipush 9, 2) := by decide +kernel
theorem dX7_nearCoops_6 : decode cX7_nearCoops 6 = .ok (.iaload, 1) := by decide +kernel
theorem dX7_nearCoops_7 : decode cX7_nearCoops 7 = .ok (.istore_n 1, 1) := by decide +kernel
theorem dX7_nearCoops_8 : decode cX7_nearCoops 8 = .ok (.iconst 0, 1) := by decide +kernel
theorem dX7_nearCoops_9 : decode cX7_nearCoops 9 = .ok (.istore_n 2, 1) := by decide +kernel
theorem dX7_nearCoops_10 : decode cX7_nearCoops 10 = .ok (.iload_n 2, 1) := by decide +kernel
theorem dX7_nearCoops_11 : decode cX7_nearCoops 11 = .ok (.bipush 16, 2) := by decide +kernel
theorem dX7_nearCoops_13 : decode cX7_nearCoops 13 = .ok (.if_icmp .ge 59, 3) := by decide +kernel
theorem dX7_nearCoops_16 : decode cX7_nearCoops 16 = .ok (.iconst 0, 1) := by decide +kernel
theorem dX7_nearCoops_17 : decode cX7_nearCoops 17 = .ok (.istore_n 3, 1) := by decide +kernel
theorem dX7_nearCoops_18 : decode cX7_nearCoops 18 = .ok (.iload_n 3, 1) := by decide +kernel
theorem dX7_nearCoops_19 : decode cX7_nearCoops 19 = .ok (.iconst 4, 1) := by decide +kernel
theorem dX7_nearCoops_20 : decode cX7_nearCoops 20 = .ok (.if_icmp .ge 46, 3) := by decide +kernel
theorem dX7_nearCoops_23 : decode cX7_nearCoops 23 = .ok (.iload_n 2, 1) := by decide +kernel
theorem dX7_nearCoops_24 : decode cX7_nearCoops 24 = .ok (.iload_n 3, 1) := by decide +kernel
theorem dX7_nearCoops_25 : decode cX7_nearCoops 25 = .ok (.invokestatic 59, 3) := by decide +kernel
theorem dX7_nearCoops_28 : decode cX7_nearCoops 28 = .ok (.istore 4, 2) := by decide +kernel
theorem dX7_nearCoops_30 : decode cX7_nearCoops 30 = .ok (.iload_n 1, 1) := by decide +kernel
theorem dX7_nearCoops_31 : decode cX7_nearCoops 31 = .ok (.iload 4, 2) := by decide +kernel
theorem dX7_nearCoops_33 : decode cX7_nearCoops 33 = .ok (.ifCond .lt 24, 3) := by decide +kernel
theorem dX7_nearCoops_36 : decode cX7_nearCoops 36 = .ok (.aload_n 0, 1) := by decide +kernel
theorem dX7_nearCoops_37 : decode cX7_nearCoops 37 = .ok (.getfield 7, 3) := by decide +kernel
theorem dX7_nearCoops_40 : decode cX7_nearCoops 40 = .ok (.bipush 9, 2) := by decide +kernel
theorem dX7_nearCoops_42 : decode cX7_nearCoops 42 = .ok (.iaload, 1) := by decide +kernel
theorem dX7_nearCoops_43 : decode cX7_nearCoops 43 = .ok (.iload 4, 2) := by decide +kernel
theorem dX7_nearCoops_45 : decode cX7_nearCoops 45 = .ok (.invokestatic 62, 3) := by decide +kernel
theorem dX7_nearCoops_48 : decode cX7_nearCoops 48 = .ok (.ifCond .eq 9, 3) := by decide +kernel
theorem dX7_nearCoops_51 : decode cX7_nearCoops 51 = .ok (.iconst 1, 1) := by decide +kernel
theorem dX7_nearCoops_52 : decode cX7_nearCoops 52 = .ok (.iload_n 2, 1) := by decide +kernel
theorem dX7_nearCoops_53 : decode cX7_nearCoops 53 = .ok (.ishl, 1) := by decide +kernel
theorem dX7_nearCoops_54 : decode cX7_nearCoops 54 = .ok (.goto 4, 3) := by decide +kernel
theorem dX7_nearCoops_57 : decode cX7_nearCoops 57 = .ok (.iconst 0, 1) := by decide +kernel
theorem dX7_nearCoops_58 : decode cX7_nearCoops 58 = .ok (.ior, 1) := by decide +kernel
theorem dX7_nearCoops_59 : decode cX7_nearCoops 59 = .ok (.istore_n 1, 1) := by decide +kernel
theorem dX7_nearCoops_60 : decode cX7_nearCoops 60 = .ok (.iinc 3 1, 3) := by decide +kernel
theorem dX7_nearCoops_63 : decode cX7_nearCoops 63 = .ok (.goto (-45), 3) := by decide +kernel
theorem dX7_nearCoops_66 : decode cX7_nearCoops 66 = .ok (.iinc 2 1, 3) := by decide +kernel
theorem dX7_nearCoops_69 : decode cX7_nearCoops 69 = .ok (.goto (-59), 3) := by decide +kernel
theorem dX7_nearCoops_72 : decode cX7_nearCoops 72 = .ok (.iload_n 1, 1) := by decide +kernel
theorem dX7_nearCoops_73 : decode cX7_nearCoops 73 = .ok (.ireturn, 1) := by decide +kernel
theorem dX7_reasonToHang_0 : decode cX7_reasonToHang 0 = .ok (.aload_n 0, 1) := by decide +kernel
theorem dX7_reasonToHang_1 : decode cX7_reasonToHang 1 = .ok (.iload_n 2, 1) := by decide +kernel
theorem dX7_reasonToHang_2 : decode cX7_reasonToHang 2 = .ok (.iconst 0, 1) := by decide +kernel
theorem dX7_reasonToHang_3 : decode cX7_reasonToHang 3 = .ok (.invokevirtual 52, 3) := by decide +kernel
theorem dX7_reasonToHang_6 : decode cX7_reasonToHang 6 = .ok (.ifCond .ne 5, 3) := by decide +kernel
theorem dX7_reasonToHang_9 : decode cX7_reasonToHang 9 = .ok (.iconst 1, 1) := by decide +kernel
theorem dX7_reasonToHang_10 : decode cX7_reasonToHang 10 = .ok (.ireturn, 1) := by decide +kernel
theorem dX7_reasonToHang_11 : decode cX7_reasonToHang 11 = .ok (.aload_n 0, 1) := by decide +kernel
theorem dX7_reasonToHang_12 : decode cX7_reasonToHang 12 = .ok (.iload_n 2, 1) := by decide +kernel
theorem dX7_reasonToHang_13 : decode cX7_reasonToHang 13 = .ok (.invokevirtual 56, 3) := by decide +kernel
theorem dX7_reasonToHang_16 : decode cX7_reasonToHang 16 = .ok (.ifCond .eq 5, 3) := by decide +kernel
theorem dX7_reasonToHang_19 : decode cX7_reasonToHang 19 = .ok (.iconst 2, 1) := by decide +kernel
theorem dX7_reasonToHang_20 : decode cX7_reasonToHang 20 = .ok (.ireturn, 1) := by decide +kernel
theorem dX7_reasonToHang_21 : decode cX7_reasonToHang 21 = .ok (.aload_n 0, 1) := by decide +kernel
theorem dX7_reasonToHang_22 : decode cX7_reasonToHang 22 = .ok (.iload_n 1, 1) := by decide +kernel
theorem dX7_reasonToHang_23 : decode cX7_reasonToHang 23 = .ok (.iconst 1, 1) := by decide +kernel
theorem dX7_reasonToHang_24 : decode cX7_reasonToHang 24 = .ok (.invokevirtual 72, 3) := by decide +kernel
theorem dX7_reasonToHang_27 : decode cX7_reasonToHang 27 = .ok (.aload_n 0, 1) := by decide +kernel
theorem dX7_reasonToHang_28 : decode cX7_reasonToHang 28 = .ok (.iload_n 2, 1) := by decide +kernel
theorem dX7_reasonToHang_29 : decode cX7_reasonToHang 29 = .ok (.invokevirtual 75, 3) := by decide +kernel
theorem dX7_reasonToHang_32 : decode cX7_reasonToHang 32 = .ok (.iand, 1) := by decide +kernel
theorem dX7_reasonToHang_33 : decode cX7_reasonToHang 33 = .ok (.aload_n 0, 1) := by decide +kernel
theorem dX7_reasonToHang_34 : decode cX7_reasonToHang 34 = .ok (.iload_n 2, 1) := by decide +kernel
theorem dX7_reasonToHang_35 : decode cX7_reasonToHang 35 = .ok (.invokevirtual 75, 3) := by decide +kernel
theorem dX7_reasonToHang_38 : decode cX7_reasonToHang 38 = .ok (.if_icmp .eq 5, 3) := by decide +kernel
theorem dX7_reasonToHang_41 : decode cX7_reasonToHang 41 = .ok (.iconst 3, 1) := by decide +kernel
theorem dX7_reasonToHang_42 : decode cX7_reasonToHang 42 = .ok (.ireturn, 1) := by decide +kernel
theorem dX7_reasonToHang_43 : decode cX7_reasonToHang 43 = .ok (.aload_n 0, 1) := by decide +kernel
theorem dX7_reasonToHang_44 : decode cX7_reasonToHang 44 = .ok (.invokevirtual 78, 3) := by decide +kernel
theorem dX7_reasonToHang_47 : decode cX7_reasonToHang 47 = .ok (.aload_n 0, 1) := by decide +kernel
theorem dX7_reasonToHang_48 : decode cX7_reasonToHang 48 = .ok (.iload_n 2, 1) := by decide +kernel
theorem dX7_reasonToHang_49 : decode cX7_reasonToHang 49 = .ok (.invokevirtual 75, 3) := by decide +kernel
theorem dX7_reasonToHang_52 : decode cX7_reasonToHang 52 = .ok (.iand, 1) := by decide +kernel
theorem dX7_reasonToHang_53 : decode cX7_reasonToHang 53 = .ok (.ifCond .eq 5, 3) := by decide +kernel
theorem dX7_reasonToHang_56 : decode cX7_reasonToHang 56 = .ok (.iconst 4, 1) := by decide +kernel
theorem dX7_reasonToHang_57 : decode cX7_reasonToHang 57 = .ok (.ireturn, 1) := by decide +kernel
theorem dX7_reasonToHang_58 : decode cX7_reasonToHang 58 = .ok (.aload_n 0, 1) := by decide +kernel
theorem dX7_reasonToHang_59 : decode cX7_reasonToHang 59 = .ok (.iload_n 1, 1) := by decide +kernel
theorem dX7_reasonToHang_60 : decode cX7_reasonToHang 60 = .ok (.iconst 2, 1) := by decide +kernel
theorem dX7_reasonToHang_61 : decode cX7_reasonToHang 61 = .ok (.invokevirtual 72, 3) := by decide +kernel
theorem dX7_reasonToHang_64 : decode cX7_reasonToHang 64 = .ok (.ifCond .ne 20, 3) := by decide +kernel
theorem dX7_reasonToHang_67 : decode cX7_reasonToHang 67 = .ok (.aload_n 0, 1) := by decide +kernel
theorem dX7_reasonToHang_68 : decode cX7_reasonToHang 68 = .ok (.invokevirtual 82, 3) := by decide +kernel
theorem dX7_reasonToHang_71 : decode cX7_reasonToHang 71 = .ok (.aload_n 0, 1) := by decide +kernel
theorem dX7_reasonToHang_72 : decode cX7_reasonToHang 72 = .ok (.iload_n 2, 1) := by decide +kernel
theorem dX7_reasonToHang_73 : decode cX7_reasonToHang 73 = .ok (.invokevirtual 75, 3) := by decide +kernel
theorem dX7_reasonToHang_76 : decode cX7_reasonToHang 76 = .ok (.iand, 1) := by decide +kernel
theorem dX7_reasonToHang_77 : decode cX7_reasonToHang 77 = .ok (.ifCond .eq 7, 3) := by decide +kernel
theorem dX7_reasonToHang_80 : decode cX7_reasonToHang 80 = .ok (.iconst 5, 1) := by decide +kernel
theorem dX7_reasonToHang_81 : decode cX7_reasonToHang 81 = .ok (.goto 4, 3) := by decide +kernel
theorem dX7_reasonToHang_84 : decode cX7_reasonToHang 84 = .ok (.iconst 0, 1) := by decide +kernel
theorem dX7_reasonToHang_85 : decode cX7_reasonToHang 85 = .ok (.ireturn, 1) := by decide +kernel
theorem dX7_reasonToWalk_0 : decode cX7_reasonToWalk 0 = .ok (.aload_n 0, 1) := by decide +kernel
theorem dX7_reasonToWalk_1 : decode cX7_reasonToWalk 1 = .ok (.iload_n 2, 1) := by decide +kernel
theorem dX7_reasonToWalk_2 : decode cX7_reasonToWalk 2 = .ok (.iconst 0, 1) := by decide +kernel
theorem dX7_reasonToWalk_3 : decode cX7_reasonToWalk 3 = .ok (.invokevirtual 52, 3) := by decide +kernel
theorem dX7_reasonToWalk_6 : decode cX7_reasonToWalk 6 = .ok (.ifCond .ne 5, 3) := by decide +kernel
theorem dX7_reasonToWalk_9 : decode cX7_reasonToWalk 9 = .ok (.iconst 1, 1) := by decide +kernel
theorem dX7_reasonToWalk_10 : decode cX7_reasonToWalk 10 = .ok (.ireturn, 1) := by decide +kernel
theorem dX7_reasonToWalk_11 : decode cX7_reasonToWalk 11 = .ok (.aload_n 0, 1) := by decide +kernel
theorem dX7_reasonToWalk_12 : decode cX7_reasonToWalk 12 = .ok (.iload_n 2, 1) := by decide +kernel
theorem dX7_reasonToWalk_13 : decode cX7_reasonToWalk 13 = .ok (.iconst 0, 1) := by decide +kernel
theorem dX7_reasonToWalk_14 : decode cX7_reasonToWalk 14 = .ok (.invokevirtual 52, 3) := by decide +kernel
theorem dX7_reasonToWalk_17 : decode cX7_reasonToWalk 17 = .ok (.aload_n 0, 1) := by decide +kernel
theorem dX7_reasonToWalk_18 : decode cX7_reasonToWalk 18 = .ok (.iload_n 1, 1) := by decide +kernel
theorem dX7_reasonToWalk_19 : decode cX7_reasonToWalk 19 = .ok (.iconst 0, 1) := by decide +kernel
theorem dX7_reasonToWalk_20 : decode cX7_reasonToWalk 20 = .ok (.invokevirtual 72, 3) := by decide +kernel
theorem dX7_reasonToWalk_23 : decode cX7_reasonToWalk 23 = .ok (.if_icmp .ge 6, 3) := by decide +kernel
theorem dX7_reasonToWalk_26 : decode cX7_reasonToWalk 26 = .ok (.bipush 8, 2) := by decide +kernel
theorem dX7_reasonToWalk_28 : decode cX7_reasonToWalk 28 = .ok (.ireturn, 1) := by decide +kernel
theorem dX7_reasonToWalk_29 : decode cX7_reasonToWalk 29 = .ok (.aload_n 0, 1) := by decide +kernel
theorem dX7_reasonToWalk_30 : decode cX7_reasonToWalk 30 = .ok (.iload_n 2, 1) := by decide +kernel
theorem dX7_reasonToWalk_31 : decode cX7_reasonToWalk 31 = .ok (.invokevirtual 56, 3) := by decide +kernel
theorem dX7_reasonToWalk_34 : decode cX7_reasonToWalk 34 = .ok (.ifCond .eq 18, 3) := by decide +kernel
theorem dX7_reasonToWalk_37 : decode cX7_reasonToWalk 37 = .ok (.aload_n 0, 1) := by decide +kernel
theorem dX7_reasonToWalk_38 : decode cX7_reasonToWalk 38 = .ok (.iload_n 2, 1) := by decide +kernel
theorem dX7_reasonToWalk_39 : decode cX7_reasonToWalk 39 = .ok (.iconst 1, 1) := by decide +kernel
theorem dX7_reasonToWalk_40 : decode cX7_reasonToWalk 40 = .ok (.invokevirtual 52, 3) := by decide +kernel
theorem dX7_reasonToWalk_43 : decode cX7_reasonToWalk 43 = .ok (.iload_n 1, 1) := by decide +kernel
theorem dX7_reasonToWalk_44 : decode cX7_reasonToWalk 44 = .ok (.iconst 1, 1) := by decide +kernel
theorem dX7_reasonToWalk_45 : decode cX7_reasonToWalk 45 = .ok (.iadd, 1) := by decide +kernel
theorem dX7_reasonToWalk_46 : decode cX7_reasonToWalk 46 = .ok (.if_icmp .eq 6, 3) := by decide +kernel
theorem dX7_reasonToWalk_49 : decode cX7_reasonToWalk 49 = .ok (.bipush 9, 2) := by decide +kernel
theorem dX7_reasonToWalk_51 : decode cX7_reasonToWalk 51 = .ok (.ireturn, 1) := by decide +kernel
theorem dX7_reasonToWalk_52 : decode cX7_reasonToWalk 52 = .ok (.aload_n 0, 1) := by decide +kernel
theorem dX7_reasonToWalk_53 : decode cX7_reasonToWalk 53 = .ok (.iload_n 1, 1) := by decide +kernel
theorem dX7_reasonToWalk_54 : decode cX7_reasonToWalk 54 = .ok (.iconst 1, 1) := by decide +kernel
theorem dX7_reasonToWalk_55 : decode cX7_reasonToWalk 55 = .ok (.invokevirtual 72, 3) := by decide +kernel
theorem dX7_reasonToWalk_58 : decode cX7_reasonToWalk 58 = .ok (.iload_n 2, 1) := by decide +kernel
theorem dX7_reasonToWalk_59 : decode cX7_reasonToWalk 59 = .ok (.iload_n 3, 1) := by decide +kernel
theorem dX7_reasonToWalk_60 : decode cX7_reasonToWalk 60 = .ok (.invokestatic 85, 3) := by decide +kernel
theorem dX7_reasonToWalk_63 : decode cX7_reasonToWalk 63 = .ok (.invokestatic 62, 3) := by decide +kernel
theorem dX7_reasonToWalk_66 : decode cX7_reasonToWalk 66 = .ok (.ifCond .eq 7, 3) := by decide +kernel
theorem dX7_reasonToWalk_69 : decode cX7_reasonToWalk 69 = .ok (.iconst 0, 1) := by decide +kernel
theorem dX7_reasonToWalk_70 : decode cX7_reasonToWalk 70 = .ok (.goto 4, 3) := by decide +kernel
theorem dX7_reasonToWalk_73 : decode cX7_reasonToWalk 73 = .ok (.iconst 3, 1) := by decide +kernel
theorem dX7_reasonToWalk_74 : decode cX7_reasonToWalk 74 = .ok (.ireturn, 1) := by decide +kernel
theorem dX7_refuses_0 : decode cX7_refuses 0 = .ok (.aload_n 0, 1) := by decide +kernel
theorem dX7_refuses_1 : decode cX7_refuses 1 = .ok (.getfield 7, 3) := by decide +kernel
theorem dX7_refuses_4 : decode cX7_refuses 4 = .ok (.bipush 7, 2) := by decide +kernel
theorem dX7_refuses_6 : decode cX7_refuses 6 = .ok (.dup2, 1) := by decide +kernel
theorem dX7_refuses_7 : decode cX7_refuses 7 = .ok (.iaload, 1) := by decide +kernel
theorem dX7_refuses_8 : decode cX7_refuses 8 = .ok (.iconst 1, 1) := by decide +kernel
theorem dX7_refuses_9 : decode cX7_refuses 9 = .ok (.iadd, 1) := by decide +kernel
theorem dX7_refuses_10 : decode cX7_refuses 10 = .ok (.iastore, 1) := by decide +kernel
theorem dX7_refuses_11 : decode cX7_refuses 11 = .ok (.iload_n 1, 1) := by decide +kernel
theorem dX7_refuses_12 : decode cX7_refuses 12 = .ok (.ireturn, 1) := by decide +kernel
theorem dX7_linesNow_0 : decode cX7_linesNow 0 = .ok (.iconst 0, 1) := by decide +kernel
theorem dX7_linesNow_1 : decode cX7_linesNow 1 = .ok (.istore_n 1, 1) := by decide +kernel
theorem dX7_linesNow_2 : decode cX7_linesNow 2 = .ok (.iconst 0, 1) := by decide +kernel
theorem dX7_linesNow_3 : decode cX7_linesNow 3 = .ok (.istore_n 2, 1) := by decide +kernel
theorem dX7_linesNow_4 : decode cX7_linesNow 4 = .ok (.iload_n 2, 1) := by decide +kernel
theorem dX7_linesNow_5 : decode cX7_linesNow 5 = .ok (.bipush 28, 2) := by decide +kernel
theorem dX7_linesNow_7 : decode cX7_linesNow 7 = .ok (.if_icmp .ge 25, 3) := by decide +kernel
theorem dX7_linesNow_10 : decode cX7_linesNow 10 = .ok (.iload_n 1, 1) := by decide +kernel
theorem dX7_linesNow_11 : decode cX7_linesNow 11 = .ok (.aload_n 0, 1) := by decide +kernel
theorem dX7_linesNow_12 : decode cX7_linesNow 12 = .ok (.iload_n 2, 1) := by decide +kernel
theorem dX7_linesNow_13 : decode cX7_linesNow 13 = .ok (.invokevirtual 56, 3) := by decide +kernel
theorem dX7_linesNow_16 : decode cX7_linesNow 16 = .ok (.ifCond .eq 7, 3) := by decide +kernel
theorem dX7_linesNow_19 : decode cX7_linesNow 19 = .ok (.iconst 1, 1) := by decide +kernel
theorem dX7_linesNow_20 : decode cX7_linesNow 20 = .ok (.goto 4, 3) := by decide +kernel
theorem dX7_linesNow_23 : decode cX7_linesNow 23 = .ok (.iconst 0, 1) := by decide +kernel
theorem dX7_linesNow_24 : decode cX7_linesNow 24 = .ok (.iadd, 1) := by decide +kernel
theorem dX7_linesNow_25 : decode cX7_linesNow 25 = .ok (.istore_n 1, 1) := by decide +kernel
theorem dX7_linesNow_26 : decode cX7_linesNow 26 = .ok (.iinc 2 1, 3) := by decide +kernel
theorem dX7_linesNow_29 : decode cX7_linesNow 29 = .ok (.goto (-25), 3) := by decide +kernel
theorem dX7_linesNow_32 : decode cX7_linesNow 32 = .ok (.iload_n 1, 1) := by decide +kernel
theorem dX7_linesNow_33 : decode cX7_linesNow 33 = .ok (.ireturn, 1) := by decide +kernel
theorem dX7_cleanNow_0 : decode cX7_cleanNow 0 = .ok (.iconst 0, 1) := by decide +kernel
theorem dX7_cleanNow_1 : decode cX7_cleanNow 1 = .ok (.istore_n 1, 1) := by decide +kernel
theorem dX7_cleanNow_2 : decode cX7_cleanNow 2 = .ok (.iconst 0, 1) := by decide +kernel
theorem dX7_cleanNow_3 : decode cX7_cleanNow 3 = .ok (.istore_n 2, 1) := by decide +kernel
theorem dX7_cleanNow_4 : decode cX7_cleanNow 4 = .ok (.iload_n 2, 1) := by decide +kernel
theorem dX7_cleanNow_5 : decode cX7_cleanNow 5 = .ok (.bipush 28, 2) := by decide +kernel
theorem dX7_cleanNow_7 : decode cX7_cleanNow 7 = .ok (.if_icmp .ge 25, 3) := by decide +kernel
theorem dX7_cleanNow_10 : decode cX7_cleanNow 10 = .ok (.iload_n 1, 1) := by decide +kernel
theorem dX7_cleanNow_11 : decode cX7_cleanNow 11 = .ok (.aload_n 0, 1) := by decide +kernel
theorem dX7_cleanNow_12 : decode cX7_cleanNow 12 = .ok (.iload_n 2, 1) := by decide +kernel
theorem dX7_cleanNow_13 : decode cX7_cleanNow 13 = .ok (.invokevirtual 88, 3) := by decide +kernel
theorem dX7_cleanNow_16 : decode cX7_cleanNow 16 = .ok (.ifCond .eq 7, 3) := by decide +kernel
theorem dX7_cleanNow_19 : decode cX7_cleanNow 19 = .ok (.iconst 1, 1) := by decide +kernel
theorem dX7_cleanNow_20 : decode cX7_cleanNow 20 = .ok (.goto 4, 3) := by decide +kernel
theorem dX7_cleanNow_23 : decode cX7_cleanNow 23 = .ok (.iconst 0, 1) := by decide +kernel
theorem dX7_cleanNow_24 : decode cX7_cleanNow 24 = .ok (.iadd, 1) := by decide +kernel
theorem dX7_cleanNow_25 : decode cX7_cleanNow 25 = .ok (.istore_n 1, 1) := by decide +kernel
theorem dX7_cleanNow_26 : decode cX7_cleanNow 26 = .ok (.iinc 2 1, 3) := by decide +kernel
theorem dX7_cleanNow_29 : decode cX7_cleanNow 29 = .ok (.goto (-25), 3) := by decide +kernel
theorem dX7_cleanNow_32 : decode cX7_cleanNow 32 = .ok (.iload_n 1, 1) := by decide +kernel
theorem dX7_cleanNow_33 : decode cX7_cleanNow 33 = .ok (.ireturn, 1) := by decide +kernel
theorem dX7_removes_0 : decode cX7_removes 0 = .ok (.aload_n 0, 1) := by decide +kernel
theorem dX7_removes_1 : decode cX7_removes 1 = .ok (.iload_n 1, 1) := by decide +kernel
theorem dX7_removes_2 : decode cX7_removes 2 = .ok (.iconst 1, 1) := by decide +kernel
theorem dX7_removes_3 : decode cX7_removes 3 = .ok (.iconst 0, 1) := by decide +kernel
theorem dX7_removes_4 : decode cX7_removes 4 = .ok (.invokevirtual 91, 3) := by decide +kernel
theorem dX7_removes_7 : decode cX7_removes 7 = .ok (.aload_n 0, 1) := by decide +kernel
theorem dX7_removes_8 : decode cX7_removes 8 = .ok (.iload_n 1, 1) := by decide +kernel
theorem dX7_removes_9 : decode cX7_removes 9 = .ok (.iconst 2, 1) := by decide +kernel
theorem dX7_removes_10 : decode cX7_removes 10 = .ok (.iconst 0, 1) := by decide +kernel
theorem dX7_removes_11 : decode cX7_removes 11 = .ok (.invokevirtual 91, 3) := by decide +kernel
theorem dX7_removes_14 : decode cX7_removes 14 = .ok (.aload_n 0, 1) := by decide +kernel
theorem dX7_removes_15 : decode cX7_removes 15 = .ok (.iload_n 1, 1) := by decide +kernel
theorem dX7_removes_16 : decode cX7_removes 16 = .ok (.iconst 3, 1) := by decide +kernel
theorem dX7_removes_17 : decode cX7_removes 17 = .ok (.iconst 0, 1) := by decide +kernel
theorem dX7_removes_18 : decode cX7_removes 18 = .ok (.invokevirtual 91, 3) := by decide +kernel
theorem dX7_removes_21 : decode cX7_removes 21 = .ok (.return_, 1) := by decide +kernel
theorem dX7_goHang_0 : decode cX7_goHang 0 = .ok (.aload_n 0, 1) := by decide +kernel
theorem dX7_goHang_1 : decode cX7_goHang 1 = .ok (.iload_n 1, 1) := by decide +kernel
theorem dX7_goHang_2 : decode cX7_goHang 2 = .ok (.iload_n 2, 1) := by decide +kernel
theorem dX7_goHang_3 : decode cX7_goHang 3 = .ok (.invokevirtual 95, 3) := by decide +kernel
theorem dX7_goHang_6 : decode cX7_goHang 6 = .ok (.istore_n 3, 1) := by decide +kernel
theorem dX7_goHang_7 : decode cX7_goHang 7 = .ok (.iload_n 3, 1) := by decide +kernel
theorem dX7_goHang_8 : decode cX7_goHang 8 = .ok (.ifCond .le 9, 3) := by decide +kernel
theorem dX7_goHang_11 : decode cX7_goHang 11 = .ok (.aload_n 0, 1) := by decide +kernel
theorem dX7_goHang_12 : decode cX7_goHang 12 = .ok (.iload_n 3, 1) := by decide +kernel
theorem dX7_goHang_13 : decode cX7_goHang 13 = .ok (.invokevirtual 98, 3) := by decide +kernel
theorem dX7_goHang_16 : decode cX7_goHang 16 = .ok (.ireturn, 1) := by decide +kernel
theorem dX7_goHang_17 : decode cX7_goHang 17 = .ok (.aload_n 0, 1) := by decide +kernel
theorem dX7_goHang_18 : decode cX7_goHang 18 = .ok (.iload_n 2, 1) := by decide +kernel
theorem dX7_goHang_19 : decode cX7_goHang 19 = .ok (.invokevirtual 101, 3) := by decide +kernel
theorem dX7_goHang_22 : decode cX7_goHang 22 = .ok (.aload_n 0, 1) := by decide +kernel
theorem dX7_goHang_23 : decode cX7_goHang 23 = .ok (.iload_n 2, 1) := by decide +kernel
theorem dX7_goHang_24 : decode cX7_goHang 24 = .ok (.iconst 1, 1) := by decide +kernel
theorem dX7_goHang_25 : decode cX7_goHang 25 = .ok (.iload_n 1, 1) := by decide +kernel
theorem dX7_goHang_26 : decode cX7_goHang 26 = .ok (.iconst 1, 1) := by decide +kernel
theorem dX7_goHang_27 : decode cX7_goHang 27 = .ok (.iadd, 1) := by decide +kernel
theorem dX7_goHang_28 : decode cX7_goHang 28 = .ok (.invokevirtual 91, 3) := by decide +kernel
theorem dX7_goHang_31 : decode cX7_goHang 31 = .ok (.aload_n 0, 1) := by decide +kernel
theorem dX7_goHang_32 : decode cX7_goHang 32 = .ok (.getfield 7, 3) := by decide +kernel
theorem dX7_goHang_35 : decode cX7_goHang 35 = .ok (.iconst 4, 1) := by decide +kernel
theorem dX7_goHang_36 : decode cX7_goHang 36 = .ok (.dup2, 1) := by decide +kernel
theorem dX7_goHang_37 : decode cX7_goHang 37 = .ok (.iaload, 1) := by decide +kernel
theorem dX7_goHang_38 : decode cX7_goHang 38 = .ok (.iconst 1, 1) := by decide +kernel
theorem dX7_goHang_39 : decode cX7_goHang 39 = .ok (.iadd, 1) := by decide +kernel
theorem dX7_goHang_40 : decode cX7_goHang 40 = .ok (.iastore, 1) := by decide +kernel
theorem dX7_goHang_41 : decode cX7_goHang 41 = .ok (.bipush 10, 2) := by decide +kernel
theorem dX7_goHang_43 : decode cX7_goHang 43 = .ok (.aload_n 0, 1) := by decide +kernel
theorem dX7_goHang_44 : decode cX7_goHang 44 = .ok (.invokevirtual 105, 3) := by decide +kernel
theorem dX7_goHang_47 : decode cX7_goHang 47 = .ok (.iadd, 1) := by decide +kernel
theorem dX7_goHang_48 : decode cX7_goHang 48 = .ok (.ireturn, 1) := by decide +kernel
theorem dX7_goTake_0 : decode cX7_goTake 0 = .ok (.aload_n 0, 1) := by decide +kernel
theorem dX7_goTake_1 : decode cX7_goTake 1 = .ok (.iload_n 2, 1) := by decide +kernel
theorem dX7_goTake_2 : decode cX7_goTake 2 = .ok (.iconst 1, 1) := by decide +kernel
theorem dX7_goTake_3 : decode cX7_goTake 3 = .ok (.invokevirtual 52, 3) := by decide +kernel
theorem dX7_goTake_6 : decode cX7_goTake 6 = .ok (.iload_n 1, 1) := by decide +kernel
theorem dX7_goTake_7 : decode cX7_goTake 7 = .ok (.iconst 1, 1) := by decide +kernel
theorem dX7_goTake_8 : decode cX7_goTake 8 = .ok (.iadd, 1) := by decide +kernel
theorem dX7_goTake_9 : decode cX7_goTake 9 = .ok (.if_icmp .eq 23, 3) := by decide +kernel
theorem dX7_goTake_12 : decode cX7_goTake 12 = .ok (.aload_n 0, 1) := by decide +kernel
theorem dX7_goTake_13 : decode cX7_goTake 13 = .ok (.aload_n 0, 1) := by decide +kernel
theorem dX7_goTake_14 : decode cX7_goTake 14 = .ok (.iload_n 2, 1) := by decide +kernel
theorem dX7_goTake_15 : decode cX7_goTake 15 = .ok (.invokevirtual 56, 3) := by decide +kernel
theorem dX7_goTake_18 : decode cX7_goTake 18 = .ok (.ifCond .eq 8, 3) := by decide +kernel
theorem dX7_goTake_21 : decode cX7_goTake 21 = .ok (.bipush 7, 2) := by decide +kernel
theorem dX7_goTake_23 : decode cX7_goTake 23 = .ok (.goto 5, 3) := by decide +kernel
theorem dX7_goTake_26 : decode cX7_goTake 26 = .ok (.bipush 6, 2) := by decide +kernel
theorem dX7_goTake_28 : decode cX7_goTake 28 = .ok (.invokevirtual 98, 3) := by decide +kernel
theorem dX7_goTake_31 : decode cX7_goTake 31 = .ok (.ireturn, 1) := by decide +kernel
theorem dX7_goTake_32 : decode cX7_goTake 32 = .ok (.bipush 10, 2) := by decide +kernel
theorem dX7_goTake_34 : decode cX7_goTake 34 = .ok (.aload_n 0, 1) := by decide +kernel
theorem dX7_goTake_35 : decode cX7_goTake 35 = .ok (.iload_n 2, 1) := by decide +kernel
theorem dX7_goTake_36 : decode cX7_goTake 36 = .ok (.iconst 2, 1) := by decide +kernel
theorem dX7_goTake_37 : decode cX7_goTake 37 = .ok (.invokevirtual 52, 3) := by decide +kernel
theorem dX7_goTake_40 : decode cX7_goTake 40 = .ok (.iadd, 1) := by decide +kernel
theorem dX7_goTake_41 : decode cX7_goTake 41 = .ok (.aload_n 0, 1) := by decide +kernel
theorem dX7_goTake_42 : decode cX7_goTake 42 = .ok (.iload_n 2, 1) := by decide +kernel
theorem dX7_goTake_43 : decode cX7_goTake 43 = .ok (.iconst 3, 1) := by decide +kernel
theorem dX7_goTake_44 : decode cX7_goTake 44 = .ok (.invokevirtual 52, 3) := by decide +kernel
theorem dX7_goTake_47 : decode cX7_goTake 47 = .ok (.iadd, 1) := by decide +kernel
theorem dX7_goTake_48 : decode cX7_goTake 48 = .ok (.istore_n 3, 1) := by decide +kernel
theorem dX7_goTake_49 : decode cX7_goTake 49 = .ok (.aload_n 0, 1) := by decide +kernel
theorem dX7_goTake_50 : decode cX7_goTake 50 = .ok (.iload_n 2, 1) := by decide +kernel
theorem dX7_goTake_51 : decode cX7_goTake 51 = .ok (.invokevirtual 101, 3) := by decide +kernel
theorem dX7_goTake_54 : decode cX7_goTake 54 = .ok (.aload_n 0, 1) := by decide +kernel
theorem dX7_goTake_55 : decode cX7_goTake 55 = .ok (.getfield 7, 3) := by decide +kernel
theorem dX7_goTake_58 : decode cX7_goTake 58 = .ok (.iconst 5, 1) := by decide +kernel
theorem dX7_goTake_59 : decode cX7_goTake 59 = .ok (.dup2, 1) := by decide +kernel
theorem dX7_goTake_60 : decode cX7_goTake 60 = .ok (.iaload, 1) := by decide +kernel
theorem dX7_goTake_61 : decode cX7_goTake 61 = .ok (.iconst 1, 1) := by decide +kernel
theorem dX7_goTake_62 : decode cX7_goTake 62 = .ok (.iadd, 1) := by decide +kernel
theorem dX7_goTake_63 : decode cX7_goTake 63 = .ok (.iastore, 1) := by decide +kernel
theorem dX7_goTake_64 : decode cX7_goTake 64 = .ok (.iload_n 3, 1) := by decide +kernel
theorem dX7_goTake_65 : decode cX7_goTake 65 = .ok (.ireturn, 1) := by decide +kernel
theorem dX7_goWalk_0 : decode cX7_goWalk 0 = .ok (.aload_n 0, 1) := by decide +kernel
theorem dX7_goWalk_1 : decode cX7_goWalk 1 = .ok (.iload_n 1, 1) := by decide +kernel
theorem dX7_goWalk_2 : decode cX7_goWalk 2 = .ok (.iconst 3, 1) := by decide +kernel
theorem dX7_goWalk_3 : decode cX7_goWalk 3 = .ok (.invokevirtual 72, 3) := by decide +kernel
theorem dX7_goWalk_6 : decode cX7_goWalk 6 = .ok (.istore_n 3, 1) := by decide +kernel
theorem dX7_goWalk_7 : decode cX7_goWalk 7 = .ok (.aload_n 0, 1) := by decide +kernel
theorem dX7_goWalk_8 : decode cX7_goWalk 8 = .ok (.iload_n 1, 1) := by decide +kernel
theorem dX7_goWalk_9 : decode cX7_goWalk 9 = .ok (.iload_n 2, 1) := by decide +kernel
theorem dX7_goWalk_10 : decode cX7_goWalk 10 = .ok (.iload_n 3, 1) := by decide +kernel
theorem dX7_goWalk_11 : decode cX7_goWalk 11 = .ok (.invokevirtual 108, 3) := by decide +kernel
theorem dX7_goWalk_14 : decode cX7_goWalk 14 = .ok (.istore 4, 2) := by decide +kernel
theorem dX7_goWalk_16 : decode cX7_goWalk 16 = .ok (.iload 4, 2) := by decide +kernel
theorem dX7_goWalk_18 : decode cX7_goWalk 18 = .ok (.ifCond .le 10, 3) := by decide +kernel
theorem dX7_goWalk_21 : decode cX7_goWalk 21 = .ok (.aload_n 0, 1) := by decide +kernel
theorem dX7_goWalk_22 : decode cX7_goWalk 22 = .ok (.iload 4, 2) := by decide +kernel
theorem dX7_goWalk_24 : decode cX7_goWalk 24 = .ok (.invokevirtual 98, 3) := by decide +kernel
theorem dX7_goWalk_27 : decode cX7_goWalk 27 = .ok (.ireturn, 1) := by decide +kernel
theorem dX7_goWalk_28 : decode cX7_goWalk 28 = .ok (.aload_n 0, 1) := by decide +kernel
theorem dX7_goWalk_29 : decode cX7_goWalk 29 = .ok (.getfield 7, 3) := by decide +kernel
theorem dX7_goWalk_32 : decode cX7_goWalk 32 = .ok (.bipush 10, 2) := by decide +kernel
theorem dX7_goWalk_34 : decode cX7_goWalk 34 = .ok (.iconst 5, 1) := by decide +kernel
theorem dX7_goWalk_35 : decode cX7_goWalk 35 = .ok (.iload_n 1, 1) := by decide +kernel
theorem dX7_goWalk_36 : decode cX7_goWalk 36 = .ok (.imul, 1) := by decide +kernel
theorem dX7_goWalk_37 : decode cX7_goWalk 37 = .ok (.iadd, 1) := by decide +kernel
theorem dX7_goWalk_38 : decode cX7_goWalk 38 = .ok (.iconst 3, 1) := by decide +kernel
theorem dX7_goWalk_39 : decode cX7_goWalk 39 = .ok (.iadd, 1) := by decide +kernel
theorem dX7_goWalk_40 : decode cX7_goWalk 40 = .ok (.iload_n 2, 1) := by decide +kernel
theorem dX7_goWalk_41 : decode cX7_goWalk 41 = .ok (.iload_n 3, 1) := by decide +kernel
theorem dX7_goWalk_42 : decode cX7_goWalk 42 = .ok (.invokestatic 85, 3) := by decide +kernel
theorem dX7_goWalk_45 : decode cX7_goWalk 45 = .ok (.iastore, 1) := by decide +kernel
theorem dX7_goWalk_46 : decode cX7_goWalk 46 = .ok (.aload_n 0, 1) := by decide +kernel
theorem dX7_goWalk_47 : decode cX7_goWalk 47 = .ok (.getfield 7, 3) := by decide +kernel
theorem dX7_goWalk_50 : decode cX7_goWalk 50 = .ok (.bipush 10, 2) := by decide +kernel
theorem dX7_goWalk_52 : decode cX7_goWalk 52 = .ok (.iconst 5, 1) := by decide +kernel
theorem dX7_goWalk_53 : decode cX7_goWalk 53 = .ok (.iload_n 1, 1) := by decide +kernel
theorem dX7_goWalk_54 : decode cX7_goWalk 54 = .ok (.imul, 1) := by decide +kernel
theorem dX7_goWalk_55 : decode cX7_goWalk 55 = .ok (.iadd, 1) := by decide +kernel
theorem dX7_goWalk_56 : decode cX7_goWalk 56 = .ok (.iconst 4, 1) := by decide +kernel
theorem dX7_goWalk_57 : decode cX7_goWalk 57 = .ok (.iadd, 1) := by decide +kernel
theorem dX7_goWalk_58 : decode cX7_goWalk 58 = .ok (.dup2, 1) := by decide +kernel
theorem dX7_goWalk_59 : decode cX7_goWalk 59 = .ok (.iaload, 1) := by decide +kernel
theorem dX7_goWalk_60 : decode cX7_goWalk 60 = .ok (.iconst 1, 1) := by decide +kernel
theorem dX7_goWalk_61 : decode cX7_goWalk 61 = .ok (.iadd, 1) := by decide +kernel
theorem dX7_goWalk_62 : decode cX7_goWalk 62 = .ok (.iastore, 1) := by decide +kernel
theorem dX7_goWalk_63 : decode cX7_goWalk 63 = .ok (.bipush 10, 2) := by decide +kernel
theorem dX7_goWalk_65 : decode cX7_goWalk 65 = .ok (.aload_n 0, 1) := by decide +kernel
theorem dX7_goWalk_66 : decode cX7_goWalk 66 = .ok (.iload_n 1, 1) := by decide +kernel
theorem dX7_goWalk_67 : decode cX7_goWalk 67 = .ok (.iconst 3, 1) := by decide +kernel
theorem dX7_goWalk_68 : decode cX7_goWalk 68 = .ok (.invokevirtual 72, 3) := by decide +kernel
theorem dX7_goWalk_71 : decode cX7_goWalk 71 = .ok (.iadd, 1) := by decide +kernel
theorem dX7_goWalk_72 : decode cX7_goWalk 72 = .ok (.ireturn, 1) := by decide +kernel
theorem dX7_goChimney_0 : decode cX7_goChimney 0 = .ok (.aload_n 0, 1) := by decide +kernel
theorem dX7_goChimney_1 : decode cX7_goChimney 1 = .ok (.getfield 7, 3) := by decide +kernel
theorem dX7_goChimney_4 : decode cX7_goChimney 4 = .ok (.bipush 8, 2) := by decide +kernel
theorem dX7_goChimney_6 : decode cX7_goChimney 6 = .ok (.dup2, 1) := by decide +kernel
theorem dX7_goChimney_7 : decode cX7_goChimney 7 = .ok (.iaload, 1) := by decide +kernel
theorem dX7_goChimney_8 : decode cX7_goChimney 8 = .ok (.iconst 1, 1) := by decide +kernel
theorem dX7_goChimney_9 : decode cX7_goChimney 9 = .ok (.iload_n 1, 1) := by decide +kernel
theorem dX7_goChimney_10 : decode cX7_goChimney 10 = .ok (.ishl, 1) := by decide +kernel
theorem dX7_goChimney_11 : decode cX7_goChimney 11 = .ok (.ixor, 1) := by decide +kernel
theorem dX7_goChimney_12 : decode cX7_goChimney 12 = .ok (.iastore, 1) := by decide +kernel
theorem dX7_goChimney_13 : decode cX7_goChimney 13 = .ok (.aload_n 0, 1) := by decide +kernel
theorem dX7_goChimney_14 : decode cX7_goChimney 14 = .ok (.invokevirtual 78, 3) := by decide +kernel
theorem dX7_goChimney_17 : decode cX7_goChimney 17 = .ok (.invokestatic 112, 3) := by decide +kernel
theorem dX7_goChimney_20 : decode cX7_goChimney 20 = .ok (.ireturn, 1) := by decide +kernel
theorem dX7_goDay_0 : decode cX7_goDay 0 = .ok (.aload_n 0, 1) := by decide +kernel
theorem dX7_goDay_1 : decode cX7_goDay 1 = .ok (.getfield 7, 3) := by decide +kernel
theorem dX7_goDay_4 : decode cX7_goDay 4 = .ok (.iconst 0, 1) := by decide +kernel
theorem dX7_goDay_5 : decode cX7_goDay 5 = .ok (.dup2, 1) := by decide +kernel
theorem dX7_goDay_6 : decode cX7_goDay 6 = .ok (.iaload, 1) := by decide +kernel
theorem dX7_goDay_7 : decode cX7_goDay 7 = .ok (.iconst 1, 1) := by decide +kernel
theorem dX7_goDay_8 : decode cX7_goDay 8 = .ok (.iadd, 1) := by decide +kernel
theorem dX7_goDay_9 : decode cX7_goDay 9 = .ok (.iastore, 1) := by decide +kernel
theorem dX7_goDay_10 : decode cX7_goDay 10 = .ok (.aload_n 0, 1) := by decide +kernel
theorem dX7_goDay_11 : decode cX7_goDay 11 = .ok (.invokevirtual 78, 3) := by decide +kernel
theorem dX7_goDay_14 : decode cX7_goDay 14 = .ok (.istore_n 1, 1) := by decide +kernel
theorem dX7_goDay_15 : decode cX7_goDay 15 = .ok (.iconst 0, 1) := by decide +kernel
theorem dX7_goDay_16 : decode cX7_goDay 16 = .ok (.istore_n 2, 1) := by decide +kernel
theorem dX7_goDay_17 : decode cX7_goDay 17 = .ok (.iload_n 2, 1) := by decide +kernel
theorem dX7_goDay_18 : decode cX7_goDay 18 = .ok (.bipush 28, 2) := by decide +kernel
theorem dX7_goDay_20 : decode cX7_goDay 20 = .ok (.if_icmp .ge 99, 3) := by decide +kernel
theorem dX7_goDay_23 : decode cX7_goDay 23 = .ok (.aload_n 0, 1) := by decide +kernel
theorem dX7_goDay_24 : decode cX7_goDay 24 = .ok (.iload_n 2, 1) := by decide +kernel
theorem dX7_goDay_25 : decode cX7_goDay 25 = .ok (.invokevirtual 56, 3) := by decide +kernel
theorem dX7_goDay_28 : decode cX7_goDay 28 = .ok (.ifCond .eq 85, 3) := by decide +kernel
theorem dX7_goDay_31 : decode cX7_goDay 31 = .ok (.aload_n 0, 1) := by decide +kernel
theorem dX7_goDay_32 : decode cX7_goDay 32 = .ok (.aload_n 0, 1) := by decide +kernel
theorem dX7_goDay_33 : decode cX7_goDay 33 = .ok (.iload_n 2, 1) := by decide +kernel
theorem dX7_goDay_34 : decode cX7_goDay 34 = .ok (.iconst 1, 1) := by decide +kernel
theorem dX7_goDay_35 : decode cX7_goDay 35 = .ok (.invokevirtual 52, 3) := by decide +kernel
theorem dX7_goDay_38 : decode cX7_goDay 38 = .ok (.iconst 1, 1) := by decide +kernel
theorem dX7_goDay_39 : decode cX7_goDay 39 = .ok (.isub, 1) := by decide +kernel
theorem dX7_goDay_40 : decode cX7_goDay 40 = .ok (.iconst 2, 1) := by decide +kernel
theorem dX7_goDay_41 : decode cX7_goDay 41 = .ok (.invokevirtual 72, 3) := by decide +kernel
theorem dX7_goDay_44 : decode cX7_goDay 44 = .ok (.ifCond .ne 7, 3) := by decide +kernel
theorem dX7_goDay_47 : decode cX7_goDay 47 = .ok (.iconst 1, 1) := by decide +kernel
theorem dX7_goDay_48 : decode cX7_goDay 48 = .ok (.goto 4, 3) := by decide +kernel
theorem dX7_goDay_51 : decode cX7_goDay 51 = .ok (.iconst 0, 1) := by decide +kernel
theorem dX7_goDay_52 : decode cX7_goDay 52 = .ok (.istore_n 3, 1) := by decide +kernel
theorem dX7_goDay_53 : decode cX7_goDay 53 = .ok (.aload_n 0, 1) := by decide +kernel
theorem dX7_goDay_54 : decode cX7_goDay 54 = .ok (.iload_n 2, 1) := by decide +kernel
theorem dX7_goDay_55 : decode cX7_goDay 55 = .ok (.iconst 2, 1) := by decide +kernel
theorem dX7_goDay_56 : decode cX7_goDay 56 = .ok (.aload_n 0, 1) := by decide +kernel
theorem dX7_goDay_57 : decode cX7_goDay 57 = .ok (.iload_n 2, 1) := by decide +kernel
theorem dX7_goDay_58 : decode cX7_goDay 58 = .ok (.iconst 2, 1) := by decide +kernel
theorem dX7_goDay_59 : decode cX7_goDay 59 = .ok (.invokevirtual 52, 3) := by decide +kernel
theorem dX7_goDay_62 : decode cX7_goDay 62 = .ok (.iload_n 1, 1) := by decide +kernel
theorem dX7_goDay_63 : decode cX7_goDay 63 = .ok (.aload_n 0, 1) := by decide +kernel
theorem dX7_goDay_64 : decode cX7_goDay 64 = .ok (.iload_n 2, 1) := by decide +kernel
theorem dX7_goDay_65 : decode cX7_goDay 65 = .ok (.invokevirtual 75, 3) := by decide +kernel
theorem dX7_goDay_68 : decode cX7_goDay 68 = .ok (.iand, 1) := by decide +kernel
theorem dX7_goDay_69 : decode cX7_goDay 69 = .ok (.invokestatic 112, 3) := by decide +kernel
theorem dX7_goDay_72 : decode cX7_goDay 72 = .ok (.iadd, 1) := by decide +kernel
theorem dX7_goDay_73 : decode cX7_goDay 73 = .ok (.invokevirtual 91, 3) := by decide +kernel
theorem dX7_goDay_76 : decode cX7_goDay 76 = .ok (.aload_n 0, 1) := by decide +kernel
theorem dX7_goDay_77 : decode cX7_goDay 77 = .ok (.iload_n 2, 1) := by decide +kernel
theorem dX7_goDay_78 : decode cX7_goDay 78 = .ok (.iconst 3, 1) := by decide +kernel
theorem dX7_goDay_79 : decode cX7_goDay 79 = .ok (.aload_n 0, 1) := by decide +kernel
theorem dX7_goDay_80 : decode cX7_goDay 80 = .ok (.iload_n 2, 1) := by decide +kernel
theorem dX7_goDay_81 : decode cX7_goDay 81 = .ok (.iconst 3, 1) := by decide +kernel
theorem dX7_goDay_82 : decode cX7_goDay 82 = .ok (.invokevirtual 52, 3) := by decide +kernel
theorem dX7_goDay_85 : decode cX7_goDay 85 = .ok (.iload_n 3, 1) := by decide +kernel
theorem dX7_goDay_86 : decode cX7_goDay 86 = .ok (.ifCond .eq 22, 3) := by decide +kernel
theorem dX7_goDay_89 : decode cX7_goDay 89 = .ok (.aload_n 0, 1) := by decide +kernel
theorem dX7_goDay_90 : decode cX7_goDay 90 = .ok (.getfield 7, 3) := by decide +kernel
theorem dX7_goDay_93 : decode cX7_goDay 93 = .ok (.bipush 9, 2) := by decide +kernel
theorem dX7_goDay_95 : decode cX7_goDay 95 = .ok (.iaload, 1) := by decide +kernel
theorem dX7_goDay_96 : decode cX7_goDay 96 = .ok (.aload_n 0, 1) := by decide +kernel
theorem dX7_goDay_97 : decode cX7_goDay 97 = .ok (.iload_n 2, 1) := by decide +kernel
theorem dX7_goDay_98 : decode cX7_goDay 98 = .ok (.invokevirtual 75, 3) := by decide +kernel
theorem dX7_goDay_101 : decode cX7_goDay 101 = .ok (.iand, 1) := by decide +kernel
theorem dX7_goDay_102 : decode cX7_goDay 102 = .ok (.invokestatic 112, 3) := by decide +kernel
theorem dX7_goDay_105 : decode cX7_goDay 105 = .ok (.goto 4, 3) := by decide +kernel
theorem dX7_goDay_108 : decode cX7_goDay 108 = .ok (.iconst 0, 1) := by decide +kernel
theorem dX7_goDay_109 : decode cX7_goDay 109 = .ok (.iadd, 1) := by decide +kernel
theorem dX7_goDay_110 : decode cX7_goDay 110 = .ok (.invokevirtual 91, 3) := by decide +kernel
theorem dX7_goDay_113 : decode cX7_goDay 113 = .ok (.iinc 2 1, 3) := by decide +kernel
theorem dX7_goDay_116 : decode cX7_goDay 116 = .ok (.goto (-99), 3) := by decide +kernel
theorem dX7_goDay_119 : decode cX7_goDay 119 = .ok (.aload_n 0, 1) := by decide +kernel
theorem dX7_goDay_120 : decode cX7_goDay 120 = .ok (.getfield 7, 3) := by decide +kernel
theorem dX7_goDay_123 : decode cX7_goDay 123 = .ok (.iconst 3, 1) := by decide +kernel
theorem dX7_goDay_124 : decode cX7_goDay 124 = .ok (.sipush 421, 3) := by decide +kernel
theorem dX7_goDay_127 : decode cX7_goDay 127 = .ok (.aload_n 0, 1) := by decide +kernel
theorem dX7_goDay_128 : decode cX7_goDay 128 = .ok (.getfield 7, 3) := by decide +kernel
theorem dX7_goDay_131 : decode cX7_goDay 131 = .ok (.iconst 3, 1) := by decide +kernel
theorem dX7_goDay_132 : decode cX7_goDay 132 = .ok (.iaload, 1) := by decide +kernel
theorem dX7_goDay_133 : decode cX7_goDay 133 = .ok (.imul, 1) := by decide +kernel
theorem dX7_goDay_134 : decode cX7_goDay 134 = .ok (.sipush 1663, 3) := by decide +kernel
theorem dX7_goDay_137 : decode cX7_goDay 137 = .ok (.iadd, 1) := by decide +kernel
theorem dX7_goDay_138 : decode cX7_goDay 138 = .ok (.sipush 10000, 3) := by decide +kernel
theorem dX7_goDay_141 : decode cX7_goDay 141 = .ok (.irem, 1) := by decide +kernel
theorem dX7_goDay_142 : decode cX7_goDay 142 = .ok (.iastore, 1) := by decide +kernel
theorem dX7_goDay_143 : decode cX7_goDay 143 = .ok (.aload_n 0, 1) := by decide +kernel
theorem dX7_goDay_144 : decode cX7_goDay 144 = .ok (.getfield 7, 3) := by decide +kernel
theorem dX7_goDay_147 : decode cX7_goDay 147 = .ok (.iconst 1, 1) := by decide +kernel
theorem dX7_goDay_148 : decode cX7_goDay 148 = .ok (.aload_n 0, 1) := by decide +kernel
theorem dX7_goDay_149 : decode cX7_goDay 149 = .ok (.getfield 7, 3) := by decide +kernel
theorem dX7_goDay_152 : decode cX7_goDay 152 = .ok (.iconst 3, 1) := by decide +kernel
theorem dX7_goDay_153 : decode cX7_goDay 153 = .ok (.iaload, 1) := by decide +kernel
theorem dX7_goDay_154 : decode cX7_goDay 154 = .ok (.iconst 4, 1) := by decide +kernel
theorem dX7_goDay_155 : decode cX7_goDay 155 = .ok (.irem, 1) := by decide +kernel
theorem dX7_goDay_156 : decode cX7_goDay 156 = .ok (.ifCond .ne 16, 3) := by decide +kernel
theorem dX7_goDay_159 : decode cX7_goDay 159 = .ok (.aload_n 0, 1) := by decide +kernel
theorem dX7_goDay_160 : decode cX7_goDay 160 = .ok (.getfield 7, 3) := by decide +kernel
theorem dX7_goDay_163 : decode cX7_goDay 163 = .ok (.iconst 1, 1) := by decide +kernel
theorem dX7_goDay_164 : decode cX7_goDay 164 = .ok (.iaload, 1) := by decide +kernel
theorem dX7_goDay_165 : decode cX7_goDay 165 = .ok (.iconst 1, 1) := by decide +kernel
theorem dX7_goDay_166 : decode cX7_goDay 166 = .ok (.iadd, 1) := by decide +kernel
theorem dX7_goDay_167 : decode cX7_goDay 167 = .ok (.iconst 4, 1) := by decide +kernel
theorem dX7_goDay_168 : decode cX7_goDay 168 = .ok (.irem, 1) := by decide +kernel
theorem dX7_goDay_169 : decode cX7_goDay 169 = .ok (.goto 9, 3) := by decide +kernel
theorem dX7_goDay_172 : decode cX7_goDay 172 = .ok (.aload_n 0, 1) := by decide +kernel
theorem dX7_goDay_173 : decode cX7_goDay 173 = .ok (.getfield 7, 3) := by decide +kernel
theorem dX7_goDay_176 : decode cX7_goDay 176 = .ok (.iconst 1, 1) := by decide +kernel
theorem dX7_goDay_177 : decode cX7_goDay 177 = .ok (.iaload, 1) := by decide +kernel
theorem dX7_goDay_178 : decode cX7_goDay 178 = .ok (.iastore, 1) := by decide +kernel
theorem dX7_goDay_179 : decode cX7_goDay 179 = .ok (.aload_n 0, 1) := by decide +kernel
theorem dX7_goDay_180 : decode cX7_goDay 180 = .ok (.invokevirtual 115, 3) := by decide +kernel
theorem dX7_goDay_183 : decode cX7_goDay 183 = .ok (.ireturn, 1) := by decide +kernel
theorem dX7_bears_0 : decode cX7_bears 0 = .ok (.iload_n 1, 1) := by decide +kernel
theorem dX7_bears_1 : decode cX7_bears 1 = .ok (.invokestatic 29, 3) := by decide +kernel
theorem dX7_bears_4 : decode cX7_bears 4 = .ok (.ifCond .eq 13, 3) := by decide +kernel
theorem dX7_bears_7 : decode cX7_bears 7 = .ok (.iload_n 2, 1) := by decide +kernel
theorem dX7_bears_8 : decode cX7_bears 8 = .ok (.iconst 0, 1) := by decide +kernel
theorem dX7_bears_9 : decode cX7_bears 9 = .ok (.bipush 9, 2) := by decide +kernel
theorem dX7_bears_11 : decode cX7_bears 11 = .ok (.invokestatic 41, 3) := by decide +kernel
theorem dX7_bears_14 : decode cX7_bears 14 = .ok (.ifCond .ne 5, 3) := by decide +kernel
theorem dX7_bears_17 : decode cX7_bears 17 = .ok (.iconst (-1), 1) := by decide +kernel
theorem dX7_bears_18 : decode cX7_bears 18 = .ok (.ireturn, 1) := by decide +kernel
theorem dX7_bears_19 : decode cX7_bears 19 = .ok (.aload_n 0, 1) := by decide +kernel
theorem dX7_bears_20 : decode cX7_bears 20 = .ok (.invokevirtual 118, 3) := by decide +kernel
theorem dX7_bears_23 : decode cX7_bears 23 = .ok (.aload_n 0, 1) := by decide +kernel
theorem dX7_bears_24 : decode cX7_bears 24 = .ok (.iload_n 1, 1) := by decide +kernel
theorem dX7_bears_25 : decode cX7_bears 25 = .ok (.iconst 0, 1) := by decide +kernel
theorem dX7_bears_26 : decode cX7_bears 26 = .ok (.invokevirtual 52, 3) := by decide +kernel
theorem dX7_bears_29 : decode cX7_bears 29 = .ok (.istore_n 3, 1) := by decide +kernel
theorem dX7_bears_30 : decode cX7_bears 30 = .ok (.aload_n 0, 1) := by decide +kernel
theorem dX7_bears_31 : decode cX7_bears 31 = .ok (.iload_n 1, 1) := by decide +kernel
theorem dX7_bears_32 : decode cX7_bears 32 = .ok (.iconst 0, 1) := by decide +kernel
theorem dX7_bears_33 : decode cX7_bears 33 = .ok (.iload_n 2, 1) := by decide +kernel
theorem dX7_bears_34 : decode cX7_bears 34 = .ok (.invokevirtual 91, 3) := by decide +kernel
theorem dX7_bears_37 : decode cX7_bears 37 = .ok (.iload_n 2, 1) := by decide +kernel
theorem dX7_bears_38 : decode cX7_bears 38 = .ok (.ifCond .ne 27, 3) := by decide +kernel
theorem dX7_bears_41 : decode cX7_bears 41 = .ok (.aload_n 0, 1) := by decide +kernel
theorem dX7_bears_42 : decode cX7_bears 42 = .ok (.iload_n 1, 1) := by decide +kernel
theorem dX7_bears_43 : decode cX7_bears 43 = .ok (.invokevirtual 56, 3) := by decide +kernel
theorem dX7_bears_46 : decode cX7_bears 46 = .ok (.ifCond .eq 19, 3) := by decide +kernel
theorem dX7_bears_49 : decode cX7_bears 49 = .ok (.aload_n 0, 1) := by decide +kernel
theorem dX7_bears_50 : decode cX7_bears 50 = .ok (.iload_n 1, 1) := by decide +kernel
theorem dX7_bears_51 : decode cX7_bears 51 = .ok (.invokevirtual 101, 3) := by decide +kernel
theorem dX7_bears_54 : decode cX7_bears 54 = .ok (.aload_n 0, 1) := by decide +kernel
theorem dX7_bears_55 : decode cX7_bears 55 = .ok (.getfield 7, 3) := by decide +kernel
theorem dX7_bears_58 : decode cX7_bears 58 = .ok (.bipush 6, 2) := by decide +kernel
theorem dX7_bears_60 : decode cX7_bears 60 = .ok (.dup2, 1) := by decide +kernel
theorem dX7_bears_61 : decode cX7_bears 61 = .ok (.iaload, 1) := by decide +kernel
theorem dX7_bears_62 : decode cX7_bears 62 = .ok (.iconst 1, 1) := by decide +kernel
theorem dX7_bears_63 : decode cX7_bears 63 = .ok (.iadd, 1) := by decide +kernel
theorem dX7_bears_64 : decode cX7_bears 64 = .ok (.iastore, 1) := by decide +kernel
theorem dX7_bears_65 : decode cX7_bears 65 = .ok (.iload_n 3, 1) := by decide +kernel
theorem dX7_bears_66 : decode cX7_bears 66 = .ok (.ireturn, 1) := by decide +kernel
theorem dX7_wind_0 : decode cX7_wind 0 = .ok (.iload_n 1, 1) := by decide +kernel
theorem dX7_wind_1 : decode cX7_wind 1 = .ok (.iconst 0, 1) := by decide +kernel
theorem dX7_wind_2 : decode cX7_wind 2 = .ok (.iconst 3, 1) := by decide +kernel
theorem dX7_wind_3 : decode cX7_wind 3 = .ok (.invokestatic 41, 3) := by decide +kernel
theorem dX7_wind_6 : decode cX7_wind 6 = .ok (.ifCond .ne 5, 3) := by decide +kernel
theorem dX7_wind_9 : decode cX7_wind 9 = .ok (.iconst (-1), 1) := by decide +kernel
theorem dX7_wind_10 : decode cX7_wind 10 = .ok (.ireturn, 1) := by decide +kernel
theorem dX7_wind_11 : decode cX7_wind 11 = .ok (.aload_n 0, 1) := by decide +kernel
theorem dX7_wind_12 : decode cX7_wind 12 = .ok (.invokevirtual 118, 3) := by decide +kernel
theorem dX7_wind_15 : decode cX7_wind 15 = .ok (.aload_n 0, 1) := by decide +kernel
theorem dX7_wind_16 : decode cX7_wind 16 = .ok (.getfield 7, 3) := by decide +kernel
theorem dX7_wind_19 : decode cX7_wind 19 = .ok (.iconst 1, 1) := by decide +kernel
theorem dX7_wind_20 : decode cX7_wind 20 = .ok (.iaload, 1) := by decide +kernel
theorem dX7_wind_21 : decode cX7_wind 21 = .ok (.istore_n 2, 1) := by decide +kernel
theorem dX7_wind_22 : decode cX7_wind 22 = .ok (.aload_n 0, 1) := by decide +kernel
theorem dX7_wind_23 : decode cX7_wind 23 = .ok (.getfield 7, 3) := by decide +kernel
theorem dX7_wind_26 : decode cX7_wind 26 = .ok (.iconst 1, 1) := by decide +kernel
theorem dX7_wind_27 : decode cX7_wind 27 = .ok (.iload_n 1, 1) := by decide +kernel
theorem dX7_wind_28 : decode cX7_wind 28 = .ok (.iastore, 1) := by decide +kernel
theorem dX7_wind_29 : decode cX7_wind 29 = .ok (.iload_n 2, 1) := by decide +kernel
theorem dX7_wind_30 : decode cX7_wind 30 = .ok (.ireturn, 1) := by decide +kernel
theorem dX7_chimney_0 : decode cX7_chimney 0 = .ok (.iload_n 1, 1) := by decide +kernel
theorem dX7_chimney_1 : decode cX7_chimney 1 = .ok (.invokestatic 121, 3) := by decide +kernel
theorem dX7_chimney_4 : decode cX7_chimney 4 = .ok (.ifCond .ne 5, 3) := by decide +kernel
theorem dX7_chimney_7 : decode cX7_chimney 7 = .ok (.iconst (-1), 1) := by decide +kernel
theorem dX7_chimney_8 : decode cX7_chimney 8 = .ok (.ireturn, 1) := by decide +kernel
theorem dX7_chimney_9 : decode cX7_chimney 9 = .ok (.aload_n 0, 1) := by decide +kernel
theorem dX7_chimney_10 : decode cX7_chimney 10 = .ok (.invokevirtual 118, 3) := by decide +kernel
theorem dX7_chimney_13 : decode cX7_chimney 13 = .ok (.aload_n 0, 1) := by decide +kernel
theorem dX7_chimney_14 : decode cX7_chimney 14 = .ok (.iload_n 1, 1) := by decide +kernel
theorem dX7_chimney_15 : decode cX7_chimney 15 = .ok (.invokevirtual 124, 3) := by decide +kernel
theorem dX7_chimney_18 : decode cX7_chimney 18 = .ok (.ireturn, 1) := by decide +kernel
theorem dX7_coop_0 : decode cX7_coop 0 = .ok (.iload_n 1, 1) := by decide +kernel
theorem dX7_coop_1 : decode cX7_coop 1 = .ok (.invokestatic 121, 3) := by decide +kernel
theorem dX7_coop_4 : decode cX7_coop 4 = .ok (.ifCond .ne 5, 3) := by decide +kernel
theorem dX7_coop_7 : decode cX7_coop 7 = .ok (.iconst (-1), 1) := by decide +kernel
theorem dX7_coop_8 : decode cX7_coop 8 = .ok (.ireturn, 1) := by decide +kernel
theorem dX7_coop_9 : decode cX7_coop 9 = .ok (.aload_n 0, 1) := by decide +kernel
theorem dX7_coop_10 : decode cX7_coop 10 = .ok (.invokevirtual 118, 3) := by decide +kernel
theorem dX7_coop_13 : decode cX7_coop 13 = .ok (.aload_n 0, 1) := by decide +kernel
theorem dX7_coop_14 : decode cX7_coop 14 = .ok (.getfield 7, 3) := by decide +kernel
theorem dX7_coop_17 : decode cX7_coop 17 = .ok (.bipush 9, 2) := by decide +kernel
theorem dX7_coop_19 : decode cX7_coop 19 = .ok (.dup2, 1) := by decide +kernel
theorem dX7_coop_20 : decode cX7_coop 20 = .ok (.iaload, 1) := by decide +kernel
theorem dX7_coop_21 : decode cX7_coop 21 = .ok (.iconst 1, 1) := by decide +kernel
theorem dX7_coop_22 : decode cX7_coop 22 = .ok (.iload_n 1, 1) := by decide +kernel
theorem dX7_coop_23 : decode cX7_coop 23 = .ok (.ishl, 1) := by decide +kernel
theorem dX7_coop_24 : decode cX7_coop 24 = .ok (.ixor, 1) := by decide +kernel
theorem dX7_coop_25 : decode cX7_coop 25 = .ok (.iastore, 1) := by decide +kernel
theorem dX7_coop_26 : decode cX7_coop 26 = .ok (.aload_n 0, 1) := by decide +kernel
theorem dX7_coop_27 : decode cX7_coop 27 = .ok (.getfield 7, 3) := by decide +kernel
theorem dX7_coop_30 : decode cX7_coop 30 = .ok (.bipush 9, 2) := by decide +kernel
theorem dX7_coop_32 : decode cX7_coop 32 = .ok (.iaload, 1) := by decide +kernel
theorem dX7_coop_33 : decode cX7_coop 33 = .ok (.invokestatic 112, 3) := by decide +kernel
theorem dX7_coop_36 : decode cX7_coop 36 = .ok (.ireturn, 1) := by decide +kernel
theorem dX7_owner_0 : decode cX7_owner 0 = .ok (.iload_n 1, 1) := by decide +kernel
theorem dX7_owner_1 : decode cX7_owner 1 = .ok (.invokestatic 127, 3) := by decide +kernel
theorem dX7_owner_4 : decode cX7_owner 4 = .ok (.ifCond .eq 23, 3) := by decide +kernel
theorem dX7_owner_7 : decode cX7_owner 7 = .ok (.iload_n 2, 1) := by decide +kernel
theorem dX7_owner_8 : decode cX7_owner 8 = .ok (.iconst 1, 1) := by decide +kernel
theorem dX7_owner_9 : decode cX7_owner 9 = .ok (.bipush 9, 2) := by decide +kernel
theorem dX7_owner_11 : decode cX7_owner 11 = .ok (.invokestatic 41, 3) := by decide +kernel
theorem dX7_owner_14 : decode cX7_owner 14 = .ok (.ifCond .eq 13, 3) := by decide +kernel
theorem dX7_owner_17 : decode cX7_owner 17 = .ok (.iload_n 3, 1) := by decide +kernel
theorem dX7_owner_18 : decode cX7_owner 18 = .ok (.iconst 0, 1) := by decide +kernel
theorem dX7_owner_19 : decode cX7_owner 19 = .ok (.ldc 28, 2) := by decide +kernel
theorem dX7_owner_21 : decode cX7_owner 21 = .ok (.invokestatic 41, 3) := by decide +kernel
theorem dX7_owner_24 : decode cX7_owner 24 = .ok (.ifCond .ne 5, 3) := by decide +kernel
theorem dX7_owner_27 : decode cX7_owner 27 = .ok (.iconst (-1), 1) := by decide +kernel
theorem dX7_owner_28 : decode cX7_owner 28 = .ok (.ireturn, 1) := by decide +kernel
theorem dX7_owner_29 : decode cX7_owner 29 = .ok (.aload_n 0, 1) := by decide +kernel
theorem dX7_owner_30 : decode cX7_owner 30 = .ok (.invokevirtual 118, 3) := by decide +kernel
theorem dX7_owner_33 : decode cX7_owner 33 = .ok (.aload_n 0, 1) := by decide +kernel
theorem dX7_owner_34 : decode cX7_owner 34 = .ok (.iload_n 1, 1) := by decide +kernel
theorem dX7_owner_35 : decode cX7_owner 35 = .ok (.iconst 0, 1) := by decide +kernel
theorem dX7_owner_36 : decode cX7_owner 36 = .ok (.invokevirtual 72, 3) := by decide +kernel
theorem dX7_owner_39 : decode cX7_owner 39 = .ok (.istore 5, 2) := by decide +kernel
theorem dX7_owner_41 : decode cX7_owner 41 = .ok (.aload_n 0, 1) := by decide +kernel
theorem dX7_owner_42 : decode cX7_owner 42 = .ok (.getfield 7, 3) := by decide +kernel
theorem dX7_owner_45 : decode cX7_owner 45 = .ok (.bipush 10, 2) := by decide +kernel
theorem dX7_owner_47 : decode cX7_owner 47 = .ok (.iconst 5, 1) := by decide +kernel
theorem dX7_owner_48 : decode cX7_owner 48 = .ok (.iload_n 1, 1) := by decide +kernel
theorem dX7_owner_49 : decode cX7_owner 49 = .ok (.imul, 1) := by decide +kernel
theorem dX7_owner_50 : decode cX7_owner 50 = .ok (.iadd, 1) := by decide +kernel
theorem dX7_owner_51 : decode cX7_owner 51 = .ok (.iconst 0, 1) := by decide +kernel
theorem dX7_owner_52 : decode cX7_owner 52 = .ok (.iadd, 1) := by decide +kernel
theorem dX7_owner_53 : decode cX7_owner 53 = .ok (.iload_n 2, 1) := by decide +kernel
theorem dX7_owner_54 : decode cX7_owner 54 = .ok (.iastore, 1) := by decide +kernel
theorem dX7_owner_55 : decode cX7_owner 55 = .ok (.aload_n 0, 1) := by decide +kernel
theorem dX7_owner_56 : decode cX7_owner 56 = .ok (.getfield 7, 3) := by decide +kernel
theorem dX7_owner_59 : decode cX7_owner 59 = .ok (.bipush 10, 2) := by decide +kernel
theorem dX7_owner_61 : decode cX7_owner 61 = .ok (.iconst 5, 1) := by decide +kernel
theorem dX7_owner_62 : decode cX7_owner 62 = .ok (.iload_n 1, 1) := by decide +kernel
theorem dX7_owner_63 : decode cX7_owner 63 = .ok (.imul, 1) := by decide +kernel
theorem dX7_owner_64 : decode cX7_owner 64 = .ok (.iadd, 1) := by decide +kernel
theorem dX7_owner_65 : decode cX7_owner 65 = .ok (.iconst 1, 1) := by decide +kernel
theorem dX7_owner_66 : decode cX7_owner 66 = .ok (.iadd, 1) := by decide +kernel
theorem dX7_owner_67 : decode cX7_owner 67 = .ok (.iload_n 3, 1) := by decide +kernel
theorem dX7_owner_68 : decode cX7_owner 68 = .ok (.iastore, 1) := by decide +kernel
theorem dX7_owner_69 : decode cX7_owner 69 = .ok (.aload_n 0, 1) := by decide +kernel
theorem dX7_owner_70 : decode cX7_owner 70 = .ok (.getfield 7, 3) := by decide +kernel
theorem dX7_owner_73 : decode cX7_owner 73 = .ok (.bipush 10, 2) := by decide +kernel
theorem dX7_owner_75 : decode cX7_owner 75 = .ok (.iconst 5, 1) := by decide +kernel
theorem dX7_owner_76 : decode cX7_owner 76 = .ok (.iload_n 1, 1) := by decide +kernel
theorem dX7_owner_77 : decode cX7_owner 77 = .ok (.imul, 1) := by decide +kernel
theorem dX7_owner_78 : decode cX7_owner 78 = .ok (.iadd, 1) := by decide +kernel
theorem dX7_owner_79 : decode cX7_owner 79 = .ok (.iconst 2, 1) := by decide +kernel
theorem dX7_owner_80 : decode cX7_owner 80 = .ok (.iadd, 1) := by decide +kernel
theorem dX7_owner_81 : decode cX7_owner 81 = .ok (.iload 4, 2) := by decide +kernel
theorem dX7_owner_83 : decode cX7_owner 83 = .ok (.ifCond .eq 7, 3) := by decide +kernel
theorem dX7_owner_86 : decode cX7_owner 86 = .ok (.iconst 1, 1) := by decide +kernel
theorem dX7_owner_87 : decode cX7_owner 87 = .ok (.goto 4, 3) := by decide +kernel
theorem dX7_owner_90 : decode cX7_owner 90 = .ok (.iconst 0, 1) := by decide +kernel
theorem dX7_owner_91 : decode cX7_owner 91 = .ok (.iastore, 1) := by decide +kernel
theorem dX7_owner_92 : decode cX7_owner 92 = .ok (.iload 5, 2) := by decide +kernel
theorem dX7_owner_94 : decode cX7_owner 94 = .ok (.ireturn, 1) := by decide +kernel
theorem dX7_reach_0 : decode cX7_reach 0 = .ok (.iload_n 1, 1) := by decide +kernel
theorem dX7_reach_1 : decode cX7_reach 1 = .ok (.iconst 0, 1) := by decide +kernel
theorem dX7_reach_2 : decode cX7_reach 2 = .ok (.iconst 3, 1) := by decide +kernel
theorem dX7_reach_3 : decode cX7_reach 3 = .ok (.invokestatic 41, 3) := by decide +kernel
theorem dX7_reach_6 : decode cX7_reach 6 = .ok (.ifCond .ne 5, 3) := by decide +kernel
theorem dX7_reach_9 : decode cX7_reach 9 = .ok (.iconst (-1), 1) := by decide +kernel
theorem dX7_reach_10 : decode cX7_reach 10 = .ok (.ireturn, 1) := by decide +kernel
theorem dX7_reach_11 : decode cX7_reach 11 = .ok (.aload_n 0, 1) := by decide +kernel
theorem dX7_reach_12 : decode cX7_reach 12 = .ok (.invokevirtual 118, 3) := by decide +kernel
theorem dX7_reach_15 : decode cX7_reach 15 = .ok (.aload_n 0, 1) := by decide +kernel
theorem dX7_reach_16 : decode cX7_reach 16 = .ok (.getfield 7, 3) := by decide +kernel
theorem dX7_reach_19 : decode cX7_reach 19 = .ok (.iconst 2, 1) := by decide +kernel
theorem dX7_reach_20 : decode cX7_reach 20 = .ok (.iaload, 1) := by decide +kernel
theorem dX7_reach_21 : decode cX7_reach 21 = .ok (.istore_n 2, 1) := by decide +kernel
theorem dX7_reach_22 : decode cX7_reach 22 = .ok (.aload_n 0, 1) := by decide +kernel
theorem dX7_reach_23 : decode cX7_reach 23 = .ok (.getfield 7, 3) := by decide +kernel
theorem dX7_reach_26 : decode cX7_reach 26 = .ok (.iconst 2, 1) := by decide +kernel
theorem dX7_reach_27 : decode cX7_reach 27 = .ok (.iload_n 1, 1) := by decide +kernel
theorem dX7_reach_28 : decode cX7_reach 28 = .ok (.iastore, 1) := by decide +kernel
theorem dX7_reach_29 : decode cX7_reach 29 = .ok (.iload_n 2, 1) := by decide +kernel
theorem dX7_reach_30 : decode cX7_reach 30 = .ok (.ireturn, 1) := by decide +kernel
theorem dX7_hang_0 : decode cX7_hang 0 = .ok (.iload_n 1, 1) := by decide +kernel
theorem dX7_hang_1 : decode cX7_hang 1 = .ok (.invokestatic 127, 3) := by decide +kernel
theorem dX7_hang_4 : decode cX7_hang 4 = .ok (.ifCond .eq 10, 3) := by decide +kernel
theorem dX7_hang_7 : decode cX7_hang 7 = .ok (.iload_n 2, 1) := by decide +kernel
theorem dX7_hang_8 : decode cX7_hang 8 = .ok (.invokestatic 29, 3) := by decide +kernel
theorem dX7_hang_11 : decode cX7_hang 11 = .ok (.ifCond .ne 5, 3) := by decide +kernel
theorem dX7_hang_14 : decode cX7_hang 14 = .ok (.iconst (-1), 1) := by decide +kernel
theorem dX7_hang_15 : decode cX7_hang 15 = .ok (.ireturn, 1) := by decide +kernel
theorem dX7_hang_16 : decode cX7_hang 16 = .ok (.aload_n 0, 1) := by decide +kernel
theorem dX7_hang_17 : decode cX7_hang 17 = .ok (.invokevirtual 118, 3) := by decide +kernel
theorem dX7_hang_20 : decode cX7_hang 20 = .ok (.aload_n 0, 1) := by decide +kernel
theorem dX7_hang_21 : decode cX7_hang 21 = .ok (.iload_n 1, 1) := by decide +kernel
theorem dX7_hang_22 : decode cX7_hang 22 = .ok (.iload_n 2, 1) := by decide +kernel
theorem dX7_hang_23 : decode cX7_hang 23 = .ok (.invokevirtual 130, 3) := by decide +kernel
theorem dX7_hang_26 : decode cX7_hang 26 = .ok (.ireturn, 1) := by decide +kernel
theorem dX7_take_0 : decode cX7_take 0 = .ok (.iload_n 1, 1) := by decide +kernel
theorem dX7_take_1 : decode cX7_take 1 = .ok (.invokestatic 127, 3) := by decide +kernel
theorem dX7_take_4 : decode cX7_take 4 = .ok (.ifCond .eq 10, 3) := by decide +kernel
theorem dX7_take_7 : decode cX7_take 7 = .ok (.iload_n 2, 1) := by decide +kernel
theorem dX7_take_8 : decode cX7_take 8 = .ok (.invokestatic 29, 3) := by decide +kernel
theorem dX7_take_11 : decode cX7_take 11 = .ok (.ifCond .ne 5, 3) := by decide +kernel
theorem dX7_take_14 : decode cX7_take 14 = .ok (.iconst (-1), 1) := by decide +kernel
theorem dX7_take_15 : decode cX7_take 15 = .ok (.ireturn, 1) := by decide +kernel
theorem dX7_take_16 : decode cX7_take 16 = .ok (.aload_n 0, 1) := by decide +kernel
theorem dX7_take_17 : decode cX7_take 17 = .ok (.invokevirtual 118, 3) := by decide +kernel
theorem dX7_take_20 : decode cX7_take 20 = .ok (.aload_n 0, 1) := by decide +kernel
theorem dX7_take_21 : decode cX7_take 21 = .ok (.iload_n 1, 1) := by decide +kernel
theorem dX7_take_22 : decode cX7_take 22 = .ok (.iload_n 2, 1) := by decide +kernel
theorem dX7_take_23 : decode cX7_take 23 = .ok (.invokevirtual 133, 3) := by decide +kernel
theorem dX7_take_26 : decode cX7_take 26 = .ok (.ireturn, 1) := by decide +kernel
theorem dX7_walk_0 : decode cX7_walk 0 = .ok (.iload_n 1, 1) := by decide +kernel
theorem dX7_walk_1 : decode cX7_walk 1 = .ok (.invokestatic 127, 3) := by decide +kernel
theorem dX7_walk_4 : decode cX7_walk 4 = .ok (.ifCond .eq 10, 3) := by decide +kernel
theorem dX7_walk_7 : decode cX7_walk 7 = .ok (.iload_n 2, 1) := by decide +kernel
theorem dX7_walk_8 : decode cX7_walk 8 = .ok (.invokestatic 29, 3) := by decide +kernel
theorem dX7_walk_11 : decode cX7_walk 11 = .ok (.ifCond .ne 5, 3) := by decide +kernel
theorem dX7_walk_14 : decode cX7_walk 14 = .ok (.iconst (-1), 1) := by decide +kernel
theorem dX7_walk_15 : decode cX7_walk 15 = .ok (.ireturn, 1) := by decide +kernel
theorem dX7_walk_16 : decode cX7_walk 16 = .ok (.iload_n 2, 1) := by decide +kernel
theorem dX7_walk_17 : decode cX7_walk 17 = .ok (.aload_n 0, 1) := by decide +kernel
theorem dX7_walk_18 : decode cX7_walk 18 = .ok (.iload_n 1, 1) := by decide +kernel
theorem dX7_walk_19 : decode cX7_walk 19 = .ok (.iconst 3, 1) := by decide +kernel
theorem dX7_walk_20 : decode cX7_walk 20 = .ok (.invokevirtual 72, 3) := by decide +kernel
theorem dX7_walk_23 : decode cX7_walk 23 = .ok (.invokestatic 136, 3) := by decide +kernel
theorem dX7_walk_26 : decode cX7_walk 26 = .ok (.ifCond .ne 6, 3) := by decide +kernel
theorem dX7_walk_29 : decode cX7_walk 29 = .ok (.bipush (-2), 2) := by decide +kernel
theorem dX7_walk_31 : decode cX7_walk 31 = .ok (.ireturn, 1) := by decide +kernel
theorem dX7_walk_32 : decode cX7_walk 32 = .ok (.aload_n 0, 1) := by decide +kernel
theorem dX7_walk_33 : decode cX7_walk 33 = .ok (.invokevirtual 118, 3) := by decide +kernel
theorem dX7_walk_36 : decode cX7_walk 36 = .ok (.aload_n 0, 1) := by decide +kernel
theorem dX7_walk_37 : decode cX7_walk 37 = .ok (.iload_n 1, 1) := by decide +kernel
theorem dX7_walk_38 : decode cX7_walk 38 = .ok (.iload_n 2, 1) := by decide +kernel
theorem dX7_walk_39 : decode cX7_walk 39 = .ok (.invokevirtual 139, 3) := by decide +kernel
theorem dX7_walk_42 : decode cX7_walk 42 = .ok (.ireturn, 1) := by decide +kernel
theorem dX7_day_0 : decode cX7_day 0 = .ok (.aload_n 0, 1) := by decide +kernel
theorem dX7_day_1 : decode cX7_day 1 = .ok (.invokevirtual 118, 3) := by decide +kernel
theorem dX7_day_4 : decode cX7_day 4 = .ok (.aload_n 0, 1) := by decide +kernel
theorem dX7_day_5 : decode cX7_day 5 = .ok (.invokevirtual 142, 3) := by decide +kernel
theorem dX7_day_8 : decode cX7_day 8 = .ok (.ireturn, 1) := by decide +kernel
theorem dX7_append_0 : decode cX7_append 0 = .ok (.iload_n 1, 1) := by decide +kernel
theorem dX7_append_1 : decode cX7_append 1 = .ok (.bipush 33, 2) := by decide +kernel
theorem dX7_append_3 : decode cX7_append 3 = .ok (.bipush 126, 2) := by decide +kernel
theorem dX7_append_5 : decode cX7_append 5 = .ok (.invokestatic 41, 3) := by decide +kernel
theorem dX7_append_8 : decode cX7_append 8 = .ok (.ifCond .ne 5, 3) := by decide +kernel
theorem dX7_append_11 : decode cX7_append 11 = .ok (.iconst (-1), 1) := by decide +kernel
theorem dX7_append_12 : decode cX7_append 12 = .ok (.ireturn, 1) := by decide +kernel
theorem dX7_append_13 : decode cX7_append 13 = .ok (.aload_n 0, 1) := by decide +kernel
theorem dX7_append_14 : decode cX7_append 14 = .ok (.getfield 145, 3) := by decide +kernel
theorem dX7_append_17 : decode cX7_append 17 = .ok (.bipush 60, 2) := by decide +kernel
theorem dX7_append_19 : decode cX7_append 19 = .ok (.if_icmp .ne 6, 3) := by decide +kernel
theorem dX7_append_22 : decode cX7_append 22 = .ok (.bipush (-3), 2) := by decide +kernel
theorem dX7_append_24 : decode cX7_append 24 = .ok (.ireturn, 1) := by decide +kernel
theorem dX7_append_25 : decode cX7_append 25 = .ok (.aload_n 0, 1) := by decide +kernel
theorem dX7_append_26 : decode cX7_append 26 = .ok (.getfield 22, 3) := by decide +kernel
theorem dX7_append_29 : decode cX7_append 29 = .ok (.aload_n 0, 1) := by decide +kernel
theorem dX7_append_30 : decode cX7_append 30 = .ok (.getfield 145, 3) := by decide +kernel
theorem dX7_append_33 : decode cX7_append 33 = .ok (.iload_n 1, 1) := by decide +kernel
theorem dX7_append_34 : decode cX7_append 34 = .ok (.iastore, 1) := by decide +kernel
theorem dX7_append_35 : decode cX7_append 35 = .ok (.aload_n 0, 1) := by decide +kernel
theorem dX7_append_36 : decode cX7_append 36 = .ok (.dup, 1) := by decide +kernel
theorem dX7_append_37 : decode cX7_append 37 = .ok (.getfield 145, 3) := by decide +kernel
theorem dX7_append_40 : decode cX7_append 40 = .ok (.iconst 1, 1) := by decide +kernel
theorem dX7_append_41 : decode cX7_append 41 = .ok (.iadd, 1) := by decide +kernel
theorem dX7_append_42 : decode cX7_append 42 = .ok (.putfield 145, 3) := by decide +kernel
theorem dX7_append_45 : decode cX7_append 45 = .ok (.aload_n 0, 1) := by decide +kernel
theorem dX7_append_46 : decode cX7_append 46 = .ok (.getfield 145, 3) := by decide +kernel
theorem dX7_append_49 : decode cX7_append 49 = .ok (.ireturn, 1) := by decide +kernel
theorem dX7_clear_0 : decode cX7_clear 0 = .ok (.aload_n 0, 1) := by decide +kernel
theorem dX7_clear_1 : decode cX7_clear 1 = .ok (.getfield 145, 3) := by decide +kernel
theorem dX7_clear_4 : decode cX7_clear 4 = .ok (.istore_n 1, 1) := by decide +kernel
theorem dX7_clear_5 : decode cX7_clear 5 = .ok (.aload_n 0, 1) := by decide +kernel
theorem dX7_clear_6 : decode cX7_clear 6 = .ok (.iconst 0, 1) := by decide +kernel
theorem dX7_clear_7 : decode cX7_clear 7 = .ok (.putfield 145, 3) := by decide +kernel
theorem dX7_clear_10 : decode cX7_clear 10 = .ok (.iload_n 1, 1) := by decide +kernel
theorem dX7_clear_11 : decode cX7_clear 11 = .ok (.ireturn, 1) := by decide +kernel
theorem dX7_here_0 : decode cX7_here 0 = .ok (.aload_n 0, 1) := by decide +kernel
theorem dX7_here_1 : decode cX7_here 1 = .ok (.getfield 148, 3) := by decide +kernel
theorem dX7_here_4 : decode cX7_here 4 = .ok (.aload_n 0, 1) := by decide +kernel
theorem dX7_here_5 : decode cX7_here 5 = .ok (.getfield 145, 3) := by decide +kernel
theorem dX7_here_8 : decode cX7_here 8 = .ok (.if_icmp .ge 15, 3) := by decide +kernel
theorem dX7_here_11 : decode cX7_here 11 = .ok (.aload_n 0, 1) := by decide +kernel
theorem dX7_here_12 : decode cX7_here 12 = .ok (.getfield 22, 3) := by decide +kernel
theorem dX7_here_15 : decode cX7_here 15 = .ok (.aload_n 0, 1) := by decide +kernel
theorem dX7_here_16 : decode cX7_here 16 = .ok (.getfield 148, 3) := by decide +kernel
theorem dX7_here_19 : decode cX7_here 19 = .ok (.iaload, 1) := by decide +kernel
theorem dX7_here_20 : decode cX7_here 20 = .ok (.goto 4, 3) := by decide +kernel
theorem dX7_here_23 : decode cX7_here 23 = .ok (.iconst 0, 1) := by decide +kernel
theorem dX7_here_24 : decode cX7_here 24 = .ok (.ireturn, 1) := by decide +kernel
theorem dX7_takes_0 : decode cX7_takes 0 = .ok (.aload_n 0, 1) := by decide +kernel
theorem dX7_takes_1 : decode cX7_takes 1 = .ok (.aload_n 0, 1) := by decide +kernel
theorem dX7_takes_2 : decode cX7_takes 2 = .ok (.getfield 151, 3) := by decide +kernel
theorem dX7_takes_5 : decode cX7_takes 5 = .ok (.ifCond .eq 11, 3) := by decide +kernel
theorem dX7_takes_8 : decode cX7_takes 8 = .ok (.iload_n 1, 1) := by decide +kernel
theorem dX7_takes_9 : decode cX7_takes 9 = .ok (.ifCond .eq 7, 3) := by decide +kernel
theorem dX7_takes_12 : decode cX7_takes 12 = .ok (.iconst 1, 1) := by decide +kernel
theorem dX7_takes_13 : decode cX7_takes 13 = .ok (.goto 4, 3) := by decide +kernel
theorem dX7_takes_16 : decode cX7_takes 16 = .ok (.iconst 0, 1) := by decide +kernel
theorem dX7_takes_17 : decode cX7_takes 17 = .ok (.putfield 151, 3) := by decide +kernel
theorem dX7_takes_20 : decode cX7_takes 20 = .ok (.aload_n 0, 1) := by decide +kernel
theorem dX7_takes_21 : decode cX7_takes 21 = .ok (.dup, 1) := by decide +kernel
theorem dX7_takes_22 : decode cX7_takes 22 = .ok (.getfield 148, 3) := by decide +kernel
theorem dX7_takes_25 : decode cX7_takes 25 = .ok (.aload_n 0, 1) := by decide +kernel
theorem dX7_takes_26 : decode cX7_takes 26 = .ok (.getfield 151, 3) := by decide +kernel
theorem dX7_takes_29 : decode cX7_takes 29 = .ok (.ifCond .eq 7, 3) := by decide +kernel
theorem dX7_takes_32 : decode cX7_takes 32 = .ok (.iconst 1, 1) := by decide +kernel
theorem dX7_takes_33 : decode cX7_takes 33 = .ok (.goto 4, 3) := by decide +kernel
theorem dX7_takes_36 : decode cX7_takes 36 = .ok (.iconst 0, 1) := by decide +kernel
theorem dX7_takes_37 : decode cX7_takes 37 = .ok (.iadd, 1) := by decide +kernel
theorem dX7_takes_38 : decode cX7_takes 38 = .ok (.putfield 148, 3) := by decide +kernel
theorem dX7_takes_41 : decode cX7_takes 41 = .ok (.return_, 1) := by decide +kernel
theorem dX7_isNumber_0 : decode cX7_isNumber 0 = .ok (.iload_n 0, 1) := by decide +kernel
theorem dX7_isNumber_1 : decode cX7_isNumber 1 = .ok (.ifCond .eq 10, 3) := by decide +kernel
theorem dX7_isNumber_4 : decode cX7_isNumber 4 = .ok (.iload_n 1, 1) := by decide +kernel
theorem dX7_isNumber_5 : decode cX7_isNumber 5 = .ok (.invokestatic 29, 3) := by decide +kernel
theorem dX7_isNumber_8 : decode cX7_isNumber 8 = .ok (.goto 7, 3) := by decide +kernel
theorem dX7_isNumber_11 : decode cX7_isNumber 11 = .ok (.iload_n 1, 1) := by decide +kernel
theorem dX7_isNumber_12 : decode cX7_isNumber 12 = .ok (.invokestatic 121, 3) := by decide +kernel
theorem dX7_isNumber_15 : decode cX7_isNumber 15 = .ok (.ireturn, 1) := by decide +kernel
theorem dX7_takesNumber_0 : decode cX7_takesNumber 0 = .ok (.aload_n 0, 1) := by decide +kernel
theorem dX7_takesNumber_1 : decode cX7_takesNumber 1 = .ok (.invokevirtual 155, 3) := by decide +kernel
theorem dX7_takesNumber_4 : decode cX7_takesNumber 4 = .ok (.bipush 48, 2) := by decide +kernel
theorem dX7_takesNumber_6 : decode cX7_takesNumber 6 = .ok (.isub, 1) := by decide +kernel
theorem dX7_takesNumber_7 : decode cX7_takesNumber 7 = .ok (.istore_n 2, 1) := by decide +kernel
theorem dX7_takesNumber_8 : decode cX7_takesNumber 8 = .ok (.aload_n 0, 1) := by decide +kernel
theorem dX7_takesNumber_9 : decode cX7_takesNumber 9 = .ok (.iload_n 2, 1) := by decide +kernel
theorem dX7_takesNumber_10 : decode cX7_takesNumber 10 = .ok (.iconst 0, 1) := by decide +kernel
theorem dX7_takesNumber_11 : decode cX7_takesNumber 11 = .ok (.bipush 9, 2) := by decide +kernel
theorem dX7_takesNumber_13 : decode cX7_takesNumber 13 = .ok (.invokestatic 41, 3) := by decide +kernel
theorem dX7_takesNumber_16 : decode cX7_takesNumber 16 = .ok (.ifCond .eq 15, 3) := by decide +kernel
theorem dX7_takesNumber_19 : decode cX7_takesNumber 19 = .ok (.iload_n 1, 1) := by decide +kernel
theorem dX7_takesNumber_20 : decode cX7_takesNumber 20 = .ok (.iload_n 2, 1) := by decide +kernel
theorem dX7_takesNumber_21 : decode cX7_takesNumber 21 = .ok (.invokestatic 158, 3) := by decide +kernel
theorem dX7_takesNumber_24 : decode cX7_takesNumber 24 = .ok (.ifCond .eq 7, 3) := by decide +kernel
theorem dX7_takesNumber_27 : decode cX7_takesNumber 27 = .ok (.iconst 1, 1) := by decide +kernel
theorem dX7_takesNumber_28 : decode cX7_takesNumber 28 = .ok (.goto 4, 3) := by decide +kernel
theorem dX7_takesNumber_31 : decode cX7_takesNumber 31 = .ok (.iconst 0, 1) := by decide +kernel
theorem dX7_takesNumber_32 : decode cX7_takesNumber 32 = .ok (.invokevirtual 162, 3) := by decide +kernel
theorem dX7_takesNumber_35 : decode cX7_takesNumber 35 = .ok (.bipush 10, 2) := by decide +kernel
theorem dX7_takesNumber_37 : decode cX7_takesNumber 37 = .ok (.iload_n 2, 1) := by decide +kernel
theorem dX7_takesNumber_38 : decode cX7_takesNumber 38 = .ok (.imul, 1) := by decide +kernel
theorem dX7_takesNumber_39 : decode cX7_takesNumber 39 = .ok (.aload_n 0, 1) := by decide +kernel
theorem dX7_takesNumber_40 : decode cX7_takesNumber 40 = .ok (.invokevirtual 155, 3) := by decide +kernel
theorem dX7_takesNumber_43 : decode cX7_takesNumber 43 = .ok (.iadd, 1) := by decide +kernel
theorem dX7_takesNumber_44 : decode cX7_takesNumber 44 = .ok (.bipush 48, 2) := by decide +kernel
theorem dX7_takesNumber_46 : decode cX7_takesNumber 46 = .ok (.isub, 1) := by decide +kernel
theorem dX7_takesNumber_47 : decode cX7_takesNumber 47 = .ok (.istore_n 3, 1) := by decide +kernel
theorem dX7_takesNumber_48 : decode cX7_takesNumber 48 = .ok (.aload_n 0, 1) := by decide +kernel
theorem dX7_takesNumber_49 : decode cX7_takesNumber 49 = .ok (.getfield 151, 3) := by decide +kernel
theorem dX7_takesNumber_52 : decode cX7_takesNumber 52 = .ok (.ifCond .eq 41, 3) := by decide +kernel
theorem dX7_takesNumber_55 : decode cX7_takesNumber 55 = .ok (.iload_n 2, 1) := by decide +kernel
theorem dX7_takesNumber_56 : decode cX7_takesNumber 56 = .ok (.ifCond .le 37, 3) := by decide +kernel
theorem dX7_takesNumber_59 : decode cX7_takesNumber 59 = .ok (.aload_n 0, 1) := by decide +kernel
theorem dX7_takesNumber_60 : decode cX7_takesNumber 60 = .ok (.invokevirtual 155, 3) := by decide +kernel
theorem dX7_takesNumber_63 : decode cX7_takesNumber 63 = .ok (.bipush 48, 2) := by decide +kernel
theorem dX7_takesNumber_65 : decode cX7_takesNumber 65 = .ok (.bipush 57, 2) := by decide +kernel
theorem dX7_takesNumber_67 : decode cX7_takesNumber 67 = .ok (.invokestatic 41, 3) := by decide +kernel
theorem dX7_takesNumber_70 : decode cX7_takesNumber 70 = .ok (.ifCond .eq 23, 3) := by decide +kernel
theorem dX7_takesNumber_73 : decode cX7_takesNumber 73 = .ok (.iload_n 1, 1) := by decide +kernel
theorem dX7_takesNumber_74 : decode cX7_takesNumber 74 = .ok (.iload_n 3, 1) := by decide +kernel
theorem dX7_takesNumber_75 : decode cX7_takesNumber 75 = .ok (.invokestatic 158, 3) := by decide +kernel
theorem dX7_takesNumber_78 : decode cX7_takesNumber 78 = .ok (.ifCond .eq 15, 3) := by decide +kernel
theorem dX7_takesNumber_81 : decode cX7_takesNumber 81 = .ok (.aload_n 0, 1) := by decide +kernel
theorem dX7_takesNumber_82 : decode cX7_takesNumber 82 = .ok (.dup, 1) := by decide +kernel
theorem dX7_takesNumber_83 : decode cX7_takesNumber 83 = .ok (.getfield 148, 3) := by decide +kernel
theorem dX7_takesNumber_86 : decode cX7_takesNumber 86 = .ok (.iconst 1, 1) := by decide +kernel
theorem dX7_takesNumber_87 : decode cX7_takesNumber 87 = .ok (.iadd, 1) := by decide +kernel
theorem dX7_takesNumber_88 : decode cX7_takesNumber 88 = .ok (.putfield 148, 3) := by decide +kernel
theorem dX7_takesNumber_91 : decode cX7_takesNumber 91 = .ok (.iload_n 3, 1) := by decide +kernel
theorem dX7_takesNumber_92 : decode cX7_takesNumber 92 = .ok (.ireturn, 1) := by decide +kernel
theorem dX7_takesNumber_93 : decode cX7_takesNumber 93 = .ok (.iload_n 2, 1) := by decide +kernel
theorem dX7_takesNumber_94 : decode cX7_takesNumber 94 = .ok (.ireturn, 1) := by decide +kernel
theorem dX7_takesOrder_0 : decode cX7_takesOrder 0 = .ok (.aload_n 0, 1) := by decide +kernel
theorem dX7_takesOrder_1 : decode cX7_takesOrder 1 = .ok (.aload_n 0, 1) := by decide +kernel
theorem dX7_takesOrder_2 : decode cX7_takesOrder 2 = .ok (.invokevirtual 155, 3) := by decide +kernel
theorem dX7_takesOrder_5 : decode cX7_takesOrder 5 = .ok (.putfield 166, 3) := by decide +kernel
theorem dX7_takesOrder_8 : decode cX7_takesOrder 8 = .ok (.aload_n 0, 1) := by decide +kernel
theorem dX7_takesOrder_9 : decode cX7_takesOrder 9 = .ok (.getfield 166, 3) := by decide +kernel
theorem dX7_takesOrder_12 : decode cX7_takesOrder 12 = .ok (.bipush 104, 2) := by decide +kernel
theorem dX7_takesOrder_14 : decode cX7_takesOrder 14 = .ok (.if_icmp .eq 21, 3) := by decide +kernel
theorem dX7_takesOrder_17 : decode cX7_takesOrder 17 = .ok (.aload_n 0, 1) := by decide +kernel
theorem dX7_takesOrder_18 : decode cX7_takesOrder 18 = .ok (.getfield 166, 3) := by decide +kernel
theorem dX7_takesOrder_21 : decode cX7_takesOrder 21 = .ok (.bipush 116, 2) := by decide +kernel
theorem dX7_takesOrder_23 : decode cX7_takesOrder 23 = .ok (.if_icmp .eq 12, 3) := by decide +kernel
theorem dX7_takesOrder_26 : decode cX7_takesOrder 26 = .ok (.aload_n 0, 1) := by decide +kernel
theorem dX7_takesOrder_27 : decode cX7_takesOrder 27 = .ok (.getfield 166, 3) := by decide +kernel
theorem dX7_takesOrder_30 : decode cX7_takesOrder 30 = .ok (.bipush 119, 2) := by decide +kernel
theorem dX7_takesOrder_32 : decode cX7_takesOrder 32 = .ok (.if_icmp .ne 7, 3) := by decide +kernel
theorem dX7_takesOrder_35 : decode cX7_takesOrder 35 = .ok (.iconst 1, 1) := by decide +kernel
theorem dX7_takesOrder_36 : decode cX7_takesOrder 36 = .ok (.goto 4, 3) := by decide +kernel
theorem dX7_takesOrder_39 : decode cX7_takesOrder 39 = .ok (.iconst 0, 1) := by decide +kernel
theorem dX7_takesOrder_40 : decode cX7_takesOrder 40 = .ok (.istore_n 1, 1) := by decide +kernel
theorem dX7_takesOrder_41 : decode cX7_takesOrder 41 = .ok (.aload_n 0, 1) := by decide +kernel
theorem dX7_takesOrder_42 : decode cX7_takesOrder 42 = .ok (.iload_n 1, 1) := by decide +kernel
theorem dX7_takesOrder_43 : decode cX7_takesOrder 43 = .ok (.ifCond .ne 21, 3) := by decide +kernel
theorem dX7_takesOrder_46 : decode cX7_takesOrder 46 = .ok (.aload_n 0, 1) := by decide +kernel
theorem dX7_takesOrder_47 : decode cX7_takesOrder 47 = .ok (.getfield 166, 3) := by decide +kernel
theorem dX7_takesOrder_50 : decode cX7_takesOrder 50 = .ok (.bipush 99, 2) := by decide +kernel
theorem dX7_takesOrder_52 : decode cX7_takesOrder 52 = .ok (.if_icmp .eq 12, 3) := by decide +kernel
theorem dX7_takesOrder_55 : decode cX7_takesOrder 55 = .ok (.aload_n 0, 1) := by decide +kernel
theorem dX7_takesOrder_56 : decode cX7_takesOrder 56 = .ok (.getfield 166, 3) := by decide +kernel
theorem dX7_takesOrder_59 : decode cX7_takesOrder 59 = .ok (.bipush 100, 2) := by decide +kernel
theorem dX7_takesOrder_61 : decode cX7_takesOrder 61 = .ok (.if_icmp .ne 7, 3) := by decide +kernel
theorem dX7_takesOrder_64 : decode cX7_takesOrder 64 = .ok (.iconst 1, 1) := by decide +kernel
theorem dX7_takesOrder_65 : decode cX7_takesOrder 65 = .ok (.goto 4, 3) := by decide +kernel
theorem dX7_takesOrder_68 : decode cX7_takesOrder 68 = .ok (.iconst 0, 1) := by decide +kernel
theorem dX7_takesOrder_69 : decode cX7_takesOrder 69 = .ok (.invokevirtual 162, 3) := by decide +kernel
theorem dX7_takesOrder_72 : decode cX7_takesOrder 72 = .ok (.iload_n 1, 1) := by decide +kernel
theorem dX7_takesOrder_73 : decode cX7_takesOrder 73 = .ok (.ifCond .eq 52, 3) := by decide +kernel
theorem dX7_takesOrder_76 : decode cX7_takesOrder 76 = .ok (.aload_n 0, 1) := by decide +kernel
theorem dX7_takesOrder_77 : decode cX7_takesOrder 77 = .ok (.aload_n 0, 1) := by decide +kernel
theorem dX7_takesOrder_78 : decode cX7_takesOrder 78 = .ok (.invokevirtual 155, 3) := by decide +kernel
theorem dX7_takesOrder_81 : decode cX7_takesOrder 81 = .ok (.bipush 48, 2) := by decide +kernel
theorem dX7_takesOrder_83 : decode cX7_takesOrder 83 = .ok (.isub, 1) := by decide +kernel
theorem dX7_takesOrder_84 : decode cX7_takesOrder 84 = .ok (.putfield 169, 3) := by decide +kernel
theorem dX7_takesOrder_87 : decode cX7_takesOrder 87 = .ok (.aload_n 0, 1) := by decide +kernel
theorem dX7_takesOrder_88 : decode cX7_takesOrder 88 = .ok (.aload_n 0, 1) := by decide +kernel
theorem dX7_takesOrder_89 : decode cX7_takesOrder 89 = .ok (.getfield 169, 3) := by decide +kernel
theorem dX7_takesOrder_92 : decode cX7_takesOrder 92 = .ok (.invokestatic 127, 3) := by decide +kernel
theorem dX7_takesOrder_95 : decode cX7_takesOrder 95 = .ok (.invokevirtual 162, 3) := by decide +kernel
theorem dX7_takesOrder_98 : decode cX7_takesOrder 98 = .ok (.aload_n 0, 1) := by decide +kernel
theorem dX7_takesOrder_99 : decode cX7_takesOrder 99 = .ok (.aload_n 0, 1) := by decide +kernel
theorem dX7_takesOrder_100 : decode cX7_takesOrder 100 = .ok (.invokevirtual 155, 3) := by decide +kernel
theorem dX7_takesOrder_103 : decode cX7_takesOrder 103 = .ok (.bipush 58, 2) := by decide +kernel
theorem dX7_takesOrder_105 : decode cX7_takesOrder 105 = .ok (.if_icmp .ne 7, 3) := by decide +kernel
theorem dX7_takesOrder_108 : decode cX7_takesOrder 108 = .ok (.iconst 1, 1) := by decide +kernel
theorem dX7_takesOrder_109 : decode cX7_takesOrder 109 = .ok (.goto 4, 3) := by decide +kernel
theorem dX7_takesOrder_112 : decode cX7_takesOrder 112 = .ok (.iconst 0, 1) := by decide +kernel
theorem dX7_takesOrder_113 : decode cX7_takesOrder 113 = .ok (.invokevirtual 162, 3) := by decide +kernel
theorem dX7_takesOrder_116 : decode cX7_takesOrder 116 = .ok (.aload_n 0, 1) := by decide +kernel
theorem dX7_takesOrder_117 : decode cX7_takesOrder 117 = .ok (.aload_n 0, 1) := by decide +kernel
theorem dX7_takesOrder_118 : decode cX7_takesOrder 118 = .ok (.iconst 1, 1) := by decide +kernel
theorem dX7_takesOrder_119 : decode cX7_takesOrder 119 = .ok (.invokevirtual 172, 3) := by decide +kernel
theorem dX7_takesOrder_122 : decode cX7_takesOrder 122 = .ok (.putfield 176, 3) := by decide +kernel
theorem dX7_takesOrder_125 : decode cX7_takesOrder 125 = .ok (.aload_n 0, 1) := by decide +kernel
theorem dX7_takesOrder_126 : decode cX7_takesOrder 126 = .ok (.getfield 166, 3) := by decide +kernel
theorem dX7_takesOrder_129 : decode cX7_takesOrder 129 = .ok (.bipush 99, 2) := by decide +kernel
theorem dX7_takesOrder_131 : decode cX7_takesOrder 131 = .ok (.if_icmp .ne 12, 3) := by decide +kernel
theorem dX7_takesOrder_134 : decode cX7_takesOrder 134 = .ok (.aload_n 0, 1) := by decide +kernel
theorem dX7_takesOrder_135 : decode cX7_takesOrder 135 = .ok (.aload_n 0, 1) := by decide +kernel
theorem dX7_takesOrder_136 : decode cX7_takesOrder 136 = .ok (.iconst 0, 1) := by decide +kernel
theorem dX7_takesOrder_137 : decode cX7_takesOrder 137 = .ok (.invokevirtual 172, 3) := by decide +kernel
theorem dX7_takesOrder_140 : decode cX7_takesOrder 140 = .ok (.putfield 169, 3) := by decide +kernel
theorem dX7_takesOrder_143 : decode cX7_takesOrder 143 = .ok (.return_, 1) := by decide +kernel
theorem dX7_isText_0 : decode cX7_isText 0 = .ok (.aload_n 0, 1) := by decide +kernel
theorem dX7_isText_1 : decode cX7_isText 1 = .ok (.iconst 0, 1) := by decide +kernel
theorem dX7_isText_2 : decode cX7_isText 2 = .ok (.putfield 148, 3) := by decide +kernel
theorem dX7_isText_5 : decode cX7_isText 5 = .ok (.aload_n 0, 1) := by decide +kernel
theorem dX7_isText_6 : decode cX7_isText 6 = .ok (.iconst 1, 1) := by decide +kernel
theorem dX7_isText_7 : decode cX7_isText 7 = .ok (.putfield 151, 3) := by decide +kernel
theorem dX7_isText_10 : decode cX7_isText 10 = .ok (.aload_n 0, 1) := by decide +kernel
theorem dX7_isText_11 : decode cX7_isText 11 = .ok (.invokevirtual 179, 3) := by decide +kernel
theorem dX7_isText_14 : decode cX7_isText 14 = .ok (.aload_n 0, 1) := by decide +kernel
theorem dX7_isText_15 : decode cX7_isText 15 = .ok (.getfield 151, 3) := by decide +kernel
theorem dX7_isText_18 : decode cX7_isText 18 = .ok (.ifCond .eq 46, 3) := by decide +kernel
theorem dX7_isText_21 : decode cX7_isText 21 = .ok (.aload_n 0, 1) := by decide +kernel
theorem dX7_isText_22 : decode cX7_isText 22 = .ok (.getfield 148, 3) := by decide +kernel
theorem dX7_isText_25 : decode cX7_isText 25 = .ok (.aload_n 0, 1) := by decide +kernel
theorem dX7_isText_26 : decode cX7_isText 26 = .ok (.getfield 145, 3) := by decide +kernel
theorem dX7_isText_29 : decode cX7_isText 29 = .ok (.if_icmp .ge 35, 3) := by decide +kernel
theorem dX7_isText_32 : decode cX7_isText 32 = .ok (.aload_n 0, 1) := by decide +kernel
theorem dX7_isText_33 : decode cX7_isText 33 = .ok (.aload_n 0, 1) := by decide +kernel
theorem dX7_isText_34 : decode cX7_isText 34 = .ok (.invokevirtual 155, 3) := by decide +kernel
theorem dX7_isText_37 : decode cX7_isText 37 = .ok (.bipush 44, 2) := by decide +kernel
theorem dX7_isText_39 : decode cX7_isText 39 = .ok (.if_icmp .ne 7, 3) := by decide +kernel
theorem dX7_isText_42 : decode cX7_isText 42 = .ok (.iconst 1, 1) := by decide +kernel
theorem dX7_isText_43 : decode cX7_isText 43 = .ok (.goto 4, 3) := by decide +kernel
theorem dX7_isText_46 : decode cX7_isText 46 = .ok (.iconst 0, 1) := by decide +kernel
theorem dX7_isText_47 : decode cX7_isText 47 = .ok (.invokevirtual 162, 3) := by decide +kernel
theorem dX7_isText_50 : decode cX7_isText 50 = .ok (.aload_n 0, 1) := by decide +kernel
theorem dX7_isText_51 : decode cX7_isText 51 = .ok (.getfield 151, 3) := by decide +kernel
theorem dX7_isText_54 : decode cX7_isText 54 = .ok (.ifCond .eq (-40), 3) := by decide +kernel
theorem dX7_isText_57 : decode cX7_isText 57 = .ok (.aload_n 0, 1) := by decide +kernel
theorem dX7_isText_58 : decode cX7_isText 58 = .ok (.invokevirtual 179, 3) := by decide +kernel
theorem dX7_isText_61 : decode cX7_isText 61 = .ok (.goto (-47), 3) := by decide +kernel
theorem dX7_isText_64 : decode cX7_isText 64 = .ok (.aload_n 0, 1) := by decide +kernel
theorem dX7_isText_65 : decode cX7_isText 65 = .ok (.getfield 151, 3) := by decide +kernel
theorem dX7_isText_68 : decode cX7_isText 68 = .ok (.ireturn, 1) := by decide +kernel
theorem dX7_fault_0 : decode cX7_fault 0 = .ok (.aload_n 0, 1) := by decide +kernel
theorem dX7_fault_1 : decode cX7_fault 1 = .ok (.invokevirtual 182, 3) := by decide +kernel
theorem dX7_fault_4 : decode cX7_fault 4 = .ok (.ifCond .eq 8, 3) := by decide +kernel
theorem dX7_fault_7 : decode cX7_fault 7 = .ok (.bipush (-4), 2) := by decide +kernel
theorem dX7_fault_9 : decode cX7_fault 9 = .ok (.goto 7, 3) := by decide +kernel
theorem dX7_fault_12 : decode cX7_fault 12 = .ok (.aload_n 0, 1) := by decide +kernel
theorem dX7_fault_13 : decode cX7_fault 13 = .ok (.getfield 148, 3) := by decide +kernel
theorem dX7_fault_16 : decode cX7_fault 16 = .ok (.ireturn, 1) := by decide +kernel
theorem dX7_doesOrder_0 : decode cX7_doesOrder 0 = .ok (.aload_n 0, 1) := by decide +kernel
theorem dX7_doesOrder_1 : decode cX7_doesOrder 1 = .ok (.getfield 166, 3) := by decide +kernel
theorem dX7_doesOrder_4 : decode cX7_doesOrder 4 = .ok (.lookupswitch 119 #[(99, 107), (104, 44), (116, 57), (119, 70)], 44) := by decide +kernel
theorem dX7_doesOrder_48 : decode cX7_doesOrder 48 = .ok (.aload_n 0, 1) := by decide +kernel
theorem dX7_doesOrder_49 : decode cX7_doesOrder 49 = .ok (.aload_n 0, 1) := by decide +kernel
theorem dX7_doesOrder_50 : decode cX7_doesOrder 50 = .ok (.getfield 169, 3) := by decide +kernel
theorem dX7_doesOrder_53 : decode cX7_doesOrder 53 = .ok (.aload_n 0, 1) := by decide +kernel
theorem dX7_doesOrder_54 : decode cX7_doesOrder 54 = .ok (.getfield 176, 3) := by decide +kernel
theorem dX7_doesOrder_57 : decode cX7_doesOrder 57 = .ok (.invokevirtual 130, 3) := by decide +kernel
theorem dX7_doesOrder_60 : decode cX7_doesOrder 60 = .ok (.ireturn, 1) := by decide +kernel
theorem dX7_doesOrder_61 : decode cX7_doesOrder 61 = .ok (.aload_n 0, 1) := by decide +kernel
theorem dX7_doesOrder_62 : decode cX7_doesOrder 62 = .ok (.aload_n 0, 1) := by decide +kernel
theorem dX7_doesOrder_63 : decode cX7_doesOrder 63 = .ok (.getfield 169, 3) := by decide +kernel
theorem dX7_doesOrder_66 : decode cX7_doesOrder 66 = .ok (.aload_n 0, 1) := by decide +kernel
theorem dX7_doesOrder_67 : decode cX7_doesOrder 67 = .ok (.getfield 176, 3) := by decide +kernel
theorem dX7_doesOrder_70 : decode cX7_doesOrder 70 = .ok (.invokevirtual 133, 3) := by decide +kernel
theorem dX7_doesOrder_73 : decode cX7_doesOrder 73 = .ok (.ireturn, 1) := by decide +kernel
theorem dX7_doesOrder_74 : decode cX7_doesOrder 74 = .ok (.aload_n 0, 1) := by decide +kernel
theorem dX7_doesOrder_75 : decode cX7_doesOrder 75 = .ok (.getfield 176, 3) := by decide +kernel
theorem dX7_doesOrder_78 : decode cX7_doesOrder 78 = .ok (.aload_n 0, 1) := by decide +kernel
theorem dX7_doesOrder_79 : decode cX7_doesOrder 79 = .ok (.aload_n 0, 1) := by decide +kernel
theorem dX7_doesOrder_80 : decode cX7_doesOrder 80 = .ok (.getfield 169, 3) := by decide +kernel
theorem dX7_doesOrder_83 : decode cX7_doesOrder 83 = .ok (.iconst 3, 1) := by decide +kernel
theorem dX7_doesOrder_84 : decode cX7_doesOrder 84 = .ok (.invokevirtual 72, 3) := by decide +kernel
theorem dX7_doesOrder_87 : decode cX7_doesOrder 87 = .ok (.invokestatic 136, 3) := by decide +kernel
theorem dX7_doesOrder_90 : decode cX7_doesOrder 90 = .ok (.ifCond .eq 18, 3) := by decide +kernel
theorem dX7_doesOrder_93 : decode cX7_doesOrder 93 = .ok (.aload_n 0, 1) := by decide +kernel
theorem dX7_doesOrder_94 : decode cX7_doesOrder 94 = .ok (.aload_n 0, 1) := by decide +kernel
theorem dX7_doesOrder_95 : decode cX7_doesOrder 95 = .ok (.getfield 169, 3) := by decide +kernel
theorem dX7_doesOrder_98 : decode cX7_doesOrder 98 = .ok (.aload_n 0, 1) := by decide +kernel
theorem dX7_doesOrder_99 : decode cX7_doesOrder 99 = .ok (.getfield 176, 3) := by decide +kernel
theorem dX7_doesOrder_102 : decode cX7_doesOrder 102 = .ok (.invokevirtual 139, 3) := by decide +kernel
theorem dX7_doesOrder_105 : decode cX7_doesOrder 105 = .ok (.goto 5, 3) := by decide +kernel
theorem dX7_doesOrder_108 : decode cX7_doesOrder 108 = .ok (.bipush (-2), 2) := by decide +kernel
theorem dX7_doesOrder_110 : decode cX7_doesOrder 110 = .ok (.ireturn, 1) := by decide +kernel
theorem dX7_doesOrder_111 : decode cX7_doesOrder 111 = .ok (.bipush 10, 2) := by decide +kernel
theorem dX7_doesOrder_113 : decode cX7_doesOrder 113 = .ok (.aload_n 0, 1) := by decide +kernel
theorem dX7_doesOrder_114 : decode cX7_doesOrder 114 = .ok (.aload_n 0, 1) := by decide +kernel
theorem dX7_doesOrder_115 : decode cX7_doesOrder 115 = .ok (.getfield 169, 3) := by decide +kernel
theorem dX7_doesOrder_118 : decode cX7_doesOrder 118 = .ok (.invokevirtual 124, 3) := by decide +kernel
theorem dX7_doesOrder_121 : decode cX7_doesOrder 121 = .ok (.iadd, 1) := by decide +kernel
theorem dX7_doesOrder_122 : decode cX7_doesOrder 122 = .ok (.ireturn, 1) := by decide +kernel
theorem dX7_doesOrder_123 : decode cX7_doesOrder 123 = .ok (.bipush 10, 2) := by decide +kernel
theorem dX7_doesOrder_125 : decode cX7_doesOrder 125 = .ok (.aload_n 0, 1) := by decide +kernel
theorem dX7_doesOrder_126 : decode cX7_doesOrder 126 = .ok (.invokevirtual 142, 3) := by decide +kernel
theorem dX7_doesOrder_129 : decode cX7_doesOrder 129 = .ok (.iadd, 1) := by decide +kernel
theorem dX7_doesOrder_130 : decode cX7_doesOrder 130 = .ok (.ireturn, 1) := by decide +kernel
theorem dX7_run_0 : decode cX7_run 0 = .ok (.aload_n 0, 1) := by decide +kernel
theorem dX7_run_1 : decode cX7_run 1 = .ok (.invokevirtual 182, 3) := by decide +kernel
theorem dX7_run_4 : decode cX7_run 4 = .ok (.ifCond .ne 6, 3) := by decide +kernel
theorem dX7_run_7 : decode cX7_run 7 = .ok (.bipush (-2), 2) := by decide +kernel
theorem dX7_run_9 : decode cX7_run 9 = .ok (.ireturn, 1) := by decide +kernel
theorem dX7_run_10 : decode cX7_run 10 = .ok (.aload_n 0, 1) := by decide +kernel
theorem dX7_run_11 : decode cX7_run 11 = .ok (.invokevirtual 118, 3) := by decide +kernel
theorem dX7_run_14 : decode cX7_run 14 = .ok (.aload_n 0, 1) := by decide +kernel
theorem dX7_run_15 : decode cX7_run 15 = .ok (.iconst 0, 1) := by decide +kernel
theorem dX7_run_16 : decode cX7_run 16 = .ok (.putfield 148, 3) := by decide +kernel
theorem dX7_run_19 : decode cX7_run 19 = .ok (.aload_n 0, 1) := by decide +kernel
theorem dX7_run_20 : decode cX7_run 20 = .ok (.iconst 0, 1) := by decide +kernel
theorem dX7_run_21 : decode cX7_run 21 = .ok (.putfield 186, 3) := by decide +kernel
theorem dX7_run_24 : decode cX7_run 24 = .ok (.iconst 0, 1) := by decide +kernel
theorem dX7_run_25 : decode cX7_run 25 = .ok (.istore_n 1, 1) := by decide +kernel
theorem dX7_run_26 : decode cX7_run 26 = .ok (.aload_n 0, 1) := by decide +kernel
theorem dX7_run_27 : decode cX7_run 27 = .ok (.getfield 186, 3) := by decide +kernel
theorem dX7_run_30 : decode cX7_run 30 = .ok (.ifCond .ne 79, 3) := by decide +kernel
theorem dX7_run_33 : decode cX7_run 33 = .ok (.aload_n 0, 1) := by decide +kernel
theorem dX7_run_34 : decode cX7_run 34 = .ok (.getfield 148, 3) := by decide +kernel
theorem dX7_run_37 : decode cX7_run 37 = .ok (.aload_n 0, 1) := by decide +kernel
theorem dX7_run_38 : decode cX7_run 38 = .ok (.getfield 145, 3) := by decide +kernel
theorem dX7_run_41 : decode cX7_run 41 = .ok (.if_icmp .ge 68, 3) := by decide +kernel
theorem dX7_run_44 : decode cX7_run 44 = .ok (.aload_n 0, 1) := by decide +kernel
theorem dX7_run_45 : decode cX7_run 45 = .ok (.getfield 148, 3) := by decide +kernel
theorem dX7_run_48 : decode cX7_run 48 = .ok (.istore_n 2, 1) := by decide +kernel
theorem dX7_run_49 : decode cX7_run 49 = .ok (.aload_n 0, 1) := by decide +kernel
theorem dX7_run_50 : decode cX7_run 50 = .ok (.invokevirtual 179, 3) := by decide +kernel
theorem dX7_run_53 : decode cX7_run 53 = .ok (.aload_n 0, 1) := by decide +kernel
theorem dX7_run_54 : decode cX7_run 54 = .ok (.dup, 1) := by decide +kernel
theorem dX7_run_55 : decode cX7_run 55 = .ok (.getfield 148, 3) := by decide +kernel
theorem dX7_run_58 : decode cX7_run 58 = .ok (.iconst 1, 1) := by decide +kernel
theorem dX7_run_59 : decode cX7_run 59 = .ok (.iadd, 1) := by decide +kernel
theorem dX7_run_60 : decode cX7_run 60 = .ok (.putfield 148, 3) := by decide +kernel
theorem dX7_run_63 : decode cX7_run 63 = .ok (.aload_n 0, 1) := by decide +kernel
theorem dX7_run_64 : decode cX7_run 64 = .ok (.invokevirtual 189, 3) := by decide +kernel
theorem dX7_run_67 : decode cX7_run 67 = .ok (.istore_n 3, 1) := by decide +kernel
theorem dX7_run_68 : decode cX7_run 68 = .ok (.iload_n 3, 1) := by decide +kernel
theorem dX7_run_69 : decode cX7_run 69 = .ok (.bipush 10, 2) := by decide +kernel
theorem dX7_run_71 : decode cX7_run 71 = .ok (.if_icmp .ge 32, 3) := by decide +kernel
theorem dX7_run_74 : decode cX7_run 74 = .ok (.aload_n 0, 1) := by decide +kernel
theorem dX7_run_75 : decode cX7_run 75 = .ok (.iconst 1, 1) := by decide +kernel
theorem dX7_run_76 : decode cX7_run 76 = .ok (.putfield 186, 3) := by decide +kernel
theorem dX7_run_79 : decode cX7_run 79 = .ok (.aload_n 0, 1) := by decide +kernel
theorem dX7_run_80 : decode cX7_run 80 = .ok (.getfield 25, 3) := by decide +kernel
theorem dX7_run_83 : decode cX7_run 83 = .ok (.iconst 0, 1) := by decide +kernel
theorem dX7_run_84 : decode cX7_run 84 = .ok (.iload_n 3, 1) := by decide +kernel
theorem dX7_run_85 : decode cX7_run 85 = .ok (.iastore, 1) := by decide +kernel
theorem dX7_run_86 : decode cX7_run 86 = .ok (.aload_n 0, 1) := by decide +kernel
theorem dX7_run_87 : decode cX7_run 87 = .ok (.getfield 25, 3) := by decide +kernel
theorem dX7_run_90 : decode cX7_run 90 = .ok (.iconst 1, 1) := by decide +kernel
theorem dX7_run_91 : decode cX7_run 91 = .ok (.iload_n 1, 1) := by decide +kernel
theorem dX7_run_92 : decode cX7_run 92 = .ok (.iastore, 1) := by decide +kernel
theorem dX7_run_93 : decode cX7_run 93 = .ok (.aload_n 0, 1) := by decide +kernel
theorem dX7_run_94 : decode cX7_run 94 = .ok (.getfield 25, 3) := by decide +kernel
theorem dX7_run_97 : decode cX7_run 97 = .ok (.iconst 2, 1) := by decide +kernel
theorem dX7_run_98 : decode cX7_run 98 = .ok (.iload_n 2, 1) := by decide +kernel
theorem dX7_run_99 : decode cX7_run 99 = .ok (.iastore, 1) := by decide +kernel
theorem dX7_run_100 : decode cX7_run 100 = .ok (.goto 6, 3) := by decide +kernel
theorem dX7_run_103 : decode cX7_run 103 = .ok (.iinc 1 1, 3) := by decide +kernel
theorem dX7_run_106 : decode cX7_run 106 = .ok (.goto (-80), 3) := by decide +kernel
theorem dX7_run_109 : decode cX7_run 109 = .ok (.aload_n 0, 1) := by decide +kernel
theorem dX7_run_110 : decode cX7_run 110 = .ok (.iconst 0, 1) := by decide +kernel
theorem dX7_run_111 : decode cX7_run 111 = .ok (.putfield 145, 3) := by decide +kernel
theorem dX7_run_114 : decode cX7_run 114 = .ok (.iload_n 1, 1) := by decide +kernel
theorem dX7_run_115 : decode cX7_run 115 = .ok (.ireturn, 1) := by decide +kernel
theorem dX7_why_0 : decode cX7_why 0 = .ok (.iload_n 1, 1) := by decide +kernel
theorem dX7_why_1 : decode cX7_why 1 = .ok (.iconst 0, 1) := by decide +kernel
theorem dX7_why_2 : decode cX7_why 2 = .ok (.iconst 2, 1) := by decide +kernel
theorem dX7_why_3 : decode cX7_why 3 = .ok (.invokestatic 41, 3) := by decide +kernel
theorem dX7_why_6 : decode cX7_why 6 = .ok (.ifCond .ne 5, 3) := by decide +kernel
theorem dX7_why_9 : decode cX7_why 9 = .ok (.iconst (-1), 1) := by decide +kernel
theorem dX7_why_10 : decode cX7_why 10 = .ok (.ireturn, 1) := by decide +kernel
theorem dX7_why_11 : decode cX7_why 11 = .ok (.aload_n 0, 1) := by decide +kernel
theorem dX7_why_12 : decode cX7_why 12 = .ok (.getfield 186, 3) := by decide +kernel
theorem dX7_why_15 : decode cX7_why 15 = .ok (.ifCond .eq 12, 3) := by decide +kernel
theorem dX7_why_18 : decode cX7_why 18 = .ok (.aload_n 0, 1) := by decide +kernel
theorem dX7_why_19 : decode cX7_why 19 = .ok (.getfield 25, 3) := by decide +kernel
theorem dX7_why_22 : decode cX7_why 22 = .ok (.iload_n 1, 1) := by decide +kernel
theorem dX7_why_23 : decode cX7_why 23 = .ok (.iaload, 1) := by decide +kernel
theorem dX7_why_24 : decode cX7_why 24 = .ok (.goto 5, 3) := by decide +kernel
theorem dX7_why_27 : decode cX7_why 27 = .ok (.bipush (-4), 2) := by decide +kernel
theorem dX7_why_29 : decode cX7_why 29 = .ok (.ireturn, 1) := by decide +kernel
theorem dX7_chimneysOver_0 : decode cX7_chimneysOver 0 = .ok (.iconst 0, 1) := by decide +kernel
theorem dX7_chimneysOver_1 : decode cX7_chimneysOver 1 = .ok (.istore_n 2, 1) := by decide +kernel
theorem dX7_chimneysOver_2 : decode cX7_chimneysOver 2 = .ok (.iconst 0, 1) := by decide +kernel
theorem dX7_chimneysOver_3 : decode cX7_chimneysOver 3 = .ok (.istore_n 3, 1) := by decide +kernel
theorem dX7_chimneysOver_4 : decode cX7_chimneysOver 4 = .ok (.iload_n 3, 1) := by decide +kernel
theorem dX7_chimneysOver_5 : decode cX7_chimneysOver 5 = .ok (.bipush 16, 2) := by decide +kernel
theorem dX7_chimneysOver_7 : decode cX7_chimneysOver 7 = .ok (.if_icmp .ge 49, 3) := by decide +kernel
theorem dX7_chimneysOver_10 : decode cX7_chimneysOver 10 = .ok (.iload_n 2, 1) := by decide +kernel
theorem dX7_chimneysOver_11 : decode cX7_chimneysOver 11 = .ok (.aload_n 0, 1) := by decide +kernel
theorem dX7_chimneysOver_12 : decode cX7_chimneysOver 12 = .ok (.getfield 7, 3) := by decide +kernel
theorem dX7_chimneysOver_15 : decode cX7_chimneysOver 15 = .ok (.bipush 8, 2) := by decide +kernel
theorem dX7_chimneysOver_17 : decode cX7_chimneysOver 17 = .ok (.iaload, 1) := by decide +kernel
theorem dX7_chimneysOver_18 : decode cX7_chimneysOver 18 = .ok (.iload_n 3, 1) := by decide +kernel
theorem dX7_chimneysOver_19 : decode cX7_chimneysOver 19 = .ok (.invokestatic 62, 3) := by decide +kernel
theorem dX7_chimneysOver_22 : decode cX7_chimneysOver 22 = .ok (.ifCond .eq 25, 3) := by decide +kernel
theorem dX7_chimneysOver_25 : decode cX7_chimneysOver 25 = .ok (.aload_n 0, 1) := by decide +kernel
theorem dX7_chimneysOver_26 : decode cX7_chimneysOver 26 = .ok (.iload_n 3, 1) := by decide +kernel
theorem dX7_chimneysOver_27 : decode cX7_chimneysOver 27 = .ok (.aload_n 0, 1) := by decide +kernel
theorem dX7_chimneysOver_28 : decode cX7_chimneysOver 28 = .ok (.getfield 7, 3) := by decide +kernel
theorem dX7_chimneysOver_31 : decode cX7_chimneysOver 31 = .ok (.iconst 1, 1) := by decide +kernel
theorem dX7_chimneysOver_32 : decode cX7_chimneysOver 32 = .ok (.iaload, 1) := by decide +kernel
theorem dX7_chimneysOver_33 : decode cX7_chimneysOver 33 = .ok (.invokevirtual 66, 3) := by decide +kernel
theorem dX7_chimneysOver_36 : decode cX7_chimneysOver 36 = .ok (.iload_n 1, 1) := by decide +kernel
theorem dX7_chimneysOver_37 : decode cX7_chimneysOver 37 = .ok (.invokestatic 62, 3) := by decide +kernel
theorem dX7_chimneysOver_40 : decode cX7_chimneysOver 40 = .ok (.ifCond .eq 7, 3) := by decide +kernel
theorem dX7_chimneysOver_43 : decode cX7_chimneysOver 43 = .ok (.iconst 1, 1) := by decide +kernel
theorem dX7_chimneysOver_44 : decode cX7_chimneysOver 44 = .ok (.goto 4, 3) := by decide +kernel
theorem dX7_chimneysOver_47 : decode cX7_chimneysOver 47 = .ok (.iconst 0, 1) := by decide +kernel
theorem dX7_chimneysOver_48 : decode cX7_chimneysOver 48 = .ok (.iadd, 1) := by decide +kernel
theorem dX7_chimneysOver_49 : decode cX7_chimneysOver 49 = .ok (.istore_n 2, 1) := by decide +kernel
theorem dX7_chimneysOver_50 : decode cX7_chimneysOver 50 = .ok (.iinc 3 1, 3) := by decide +kernel
theorem dX7_chimneysOver_53 : decode cX7_chimneysOver 53 = .ok (.goto (-49), 3) := by decide +kernel
theorem dX7_chimneysOver_56 : decode cX7_chimneysOver 56 = .ok (.iload_n 2, 1) := by decide +kernel
theorem dX7_chimneysOver_57 : decode cX7_chimneysOver 57 = .ok (.ireturn, 1) := by decide +kernel
theorem dX7_ownersAt_0 : decode cX7_ownersAt 0 = .ok (.iconst 0, 1) := by decide +kernel
theorem dX7_ownersAt_1 : decode cX7_ownersAt 1 = .ok (.istore_n 2, 1) := by decide +kernel
theorem dX7_ownersAt_2 : decode cX7_ownersAt 2 = .ok (.iconst 0, 1) := by decide +kernel
theorem dX7_ownersAt_3 : decode cX7_ownersAt 3 = .ok (.istore_n 3, 1) := by decide +kernel
theorem dX7_ownersAt_4 : decode cX7_ownersAt 4 = .ok (.iload_n 3, 1) := by decide +kernel
theorem dX7_ownersAt_5 : decode cX7_ownersAt 5 = .ok (.iconst 4, 1) := by decide +kernel
theorem dX7_ownersAt_6 : decode cX7_ownersAt 6 = .ok (.if_icmp .ge 29, 3) := by decide +kernel
theorem dX7_ownersAt_9 : decode cX7_ownersAt 9 = .ok (.iload_n 2, 1) := by decide +kernel
theorem dX7_ownersAt_10 : decode cX7_ownersAt 10 = .ok (.aload_n 0, 1) := by decide +kernel
theorem dX7_ownersAt_11 : decode cX7_ownersAt 11 = .ok (.iload_n 3, 1) := by decide +kernel
theorem dX7_ownersAt_12 : decode cX7_ownersAt 12 = .ok (.iconst 3, 1) := by decide +kernel
theorem dX7_ownersAt_13 : decode cX7_ownersAt 13 = .ok (.invokevirtual 72, 3) := by decide +kernel
theorem dX7_ownersAt_16 : decode cX7_ownersAt 16 = .ok (.iload_n 1, 1) := by decide +kernel
theorem dX7_ownersAt_17 : decode cX7_ownersAt 17 = .ok (.if_icmp .ne 9, 3) := by decide +kernel
theorem dX7_ownersAt_20 : decode cX7_ownersAt 20 = .ok (.iconst 1, 1) := by decide +kernel
theorem dX7_ownersAt_21 : decode cX7_ownersAt 21 = .ok (.iload_n 3, 1) := by decide +kernel
theorem dX7_ownersAt_22 : decode cX7_ownersAt 22 = .ok (.ishl, 1) := by decide +kernel
theorem dX7_ownersAt_23 : decode cX7_ownersAt 23 = .ok (.goto 4, 3) := by decide +kernel
theorem dX7_ownersAt_26 : decode cX7_ownersAt 26 = .ok (.iconst 0, 1) := by decide +kernel
theorem dX7_ownersAt_27 : decode cX7_ownersAt 27 = .ok (.ior, 1) := by decide +kernel
theorem dX7_ownersAt_28 : decode cX7_ownersAt 28 = .ok (.istore_n 2, 1) := by decide +kernel
theorem dX7_ownersAt_29 : decode cX7_ownersAt 29 = .ok (.iinc 3 1, 3) := by decide +kernel
theorem dX7_ownersAt_32 : decode cX7_ownersAt 32 = .ok (.goto (-28), 3) := by decide +kernel
theorem dX7_ownersAt_35 : decode cX7_ownersAt 35 = .ok (.iload_n 2, 1) := by decide +kernel
theorem dX7_ownersAt_36 : decode cX7_ownersAt 36 = .ok (.ireturn, 1) := by decide +kernel
theorem dX7_strongAt_0 : decode cX7_strongAt 0 = .ok (.iconst 0, 1) := by decide +kernel
theorem dX7_strongAt_1 : decode cX7_strongAt 1 = .ok (.istore_n 2, 1) := by decide +kernel
theorem dX7_strongAt_2 : decode cX7_strongAt 2 = .ok (.iconst 0, 1) := by decide +kernel
theorem dX7_strongAt_3 : decode cX7_strongAt 3 = .ok (.istore_n 3, 1) := by decide +kernel
theorem dX7_strongAt_4 : decode cX7_strongAt 4 = .ok (.iload_n 3, 1) := by decide +kernel
theorem dX7_strongAt_5 : decode cX7_strongAt 5 = .ok (.bipush 28, 2) := by decide +kernel
theorem dX7_strongAt_7 : decode cX7_strongAt 7 = .ok (.if_icmp .ge 34, 3) := by decide +kernel
theorem dX7_strongAt_10 : decode cX7_strongAt 10 = .ok (.iload_n 2, 1) := by decide +kernel
theorem dX7_strongAt_11 : decode cX7_strongAt 11 = .ok (.iload_n 3, 1) := by decide +kernel
theorem dX7_strongAt_12 : decode cX7_strongAt 12 = .ok (.iload_n 1, 1) := by decide +kernel
theorem dX7_strongAt_13 : decode cX7_strongAt 13 = .ok (.invokestatic 136, 3) := by decide +kernel
theorem dX7_strongAt_16 : decode cX7_strongAt 16 = .ok (.ifCond .eq 16, 3) := by decide +kernel
theorem dX7_strongAt_19 : decode cX7_strongAt 19 = .ok (.aload_n 0, 1) := by decide +kernel
theorem dX7_strongAt_20 : decode cX7_strongAt 20 = .ok (.iload_n 3, 1) := by decide +kernel
theorem dX7_strongAt_21 : decode cX7_strongAt 21 = .ok (.iconst 0, 1) := by decide +kernel
theorem dX7_strongAt_22 : decode cX7_strongAt 22 = .ok (.invokevirtual 52, 3) := by decide +kernel
theorem dX7_strongAt_25 : decode cX7_strongAt 25 = .ok (.ifCond .le 7, 3) := by decide +kernel
theorem dX7_strongAt_28 : decode cX7_strongAt 28 = .ok (.iconst 1, 1) := by decide +kernel
theorem dX7_strongAt_29 : decode cX7_strongAt 29 = .ok (.goto 4, 3) := by decide +kernel
theorem dX7_strongAt_32 : decode cX7_strongAt 32 = .ok (.iconst 0, 1) := by decide +kernel
theorem dX7_strongAt_33 : decode cX7_strongAt 33 = .ok (.iadd, 1) := by decide +kernel
theorem dX7_strongAt_34 : decode cX7_strongAt 34 = .ok (.istore_n 2, 1) := by decide +kernel
theorem dX7_strongAt_35 : decode cX7_strongAt 35 = .ok (.iinc 3 1, 3) := by decide +kernel
theorem dX7_strongAt_38 : decode cX7_strongAt 38 = .ok (.goto (-34), 3) := by decide +kernel
theorem dX7_strongAt_41 : decode cX7_strongAt 41 = .ok (.iload_n 2, 1) := by decide +kernel
theorem dX7_strongAt_42 : decode cX7_strongAt 42 = .ok (.ireturn, 1) := by decide +kernel
theorem dX7_linesAt_0 : decode cX7_linesAt 0 = .ok (.iconst 0, 1) := by decide +kernel
theorem dX7_linesAt_1 : decode cX7_linesAt 1 = .ok (.istore_n 2, 1) := by decide +kernel
theorem dX7_linesAt_2 : decode cX7_linesAt 2 = .ok (.iconst 0, 1) := by decide +kernel
theorem dX7_linesAt_3 : decode cX7_linesAt 3 = .ok (.istore_n 3, 1) := by decide +kernel
theorem dX7_linesAt_4 : decode cX7_linesAt 4 = .ok (.iload_n 3, 1) := by decide +kernel
theorem dX7_linesAt_5 : decode cX7_linesAt 5 = .ok (.bipush 28, 2) := by decide +kernel
theorem dX7_linesAt_7 : decode cX7_linesAt 7 = .ok (.if_icmp .ge 33, 3) := by decide +kernel
theorem dX7_linesAt_10 : decode cX7_linesAt 10 = .ok (.iload_n 2, 1) := by decide +kernel
theorem dX7_linesAt_11 : decode cX7_linesAt 11 = .ok (.iload_n 3, 1) := by decide +kernel
theorem dX7_linesAt_12 : decode cX7_linesAt 12 = .ok (.iload_n 1, 1) := by decide +kernel
theorem dX7_linesAt_13 : decode cX7_linesAt 13 = .ok (.invokestatic 136, 3) := by decide +kernel
theorem dX7_linesAt_16 : decode cX7_linesAt 16 = .ok (.ifCond .eq 15, 3) := by decide +kernel
theorem dX7_linesAt_19 : decode cX7_linesAt 19 = .ok (.aload_n 0, 1) := by decide +kernel
theorem dX7_linesAt_20 : decode cX7_linesAt 20 = .ok (.iload_n 3, 1) := by decide +kernel
theorem dX7_linesAt_21 : decode cX7_linesAt 21 = .ok (.invokevirtual 56, 3) := by decide +kernel
theorem dX7_linesAt_24 : decode cX7_linesAt 24 = .ok (.ifCond .eq 7, 3) := by decide +kernel
theorem dX7_linesAt_27 : decode cX7_linesAt 27 = .ok (.iconst 1, 1) := by decide +kernel
theorem dX7_linesAt_28 : decode cX7_linesAt 28 = .ok (.goto 4, 3) := by decide +kernel
theorem dX7_linesAt_31 : decode cX7_linesAt 31 = .ok (.iconst 0, 1) := by decide +kernel
theorem dX7_linesAt_32 : decode cX7_linesAt 32 = .ok (.iadd, 1) := by decide +kernel
theorem dX7_linesAt_33 : decode cX7_linesAt 33 = .ok (.istore_n 2, 1) := by decide +kernel
theorem dX7_linesAt_34 : decode cX7_linesAt 34 = .ok (.iinc 3 1, 3) := by decide +kernel
theorem dX7_linesAt_37 : decode cX7_linesAt 37 = .ok (.goto (-33), 3) := by decide +kernel
theorem dX7_linesAt_40 : decode cX7_linesAt 40 = .ok (.iload_n 2, 1) := by decide +kernel
theorem dX7_linesAt_41 : decode cX7_linesAt 41 = .ok (.ireturn, 1) := by decide +kernel
theorem dX7_comeTo_0 : decode cX7_comeTo 0 = .ok (.iconst 1, 1) := by decide +kernel
theorem dX7_comeTo_1 : decode cX7_comeTo 1 = .ok (.iload_n 1, 1) := by decide +kernel
theorem dX7_comeTo_2 : decode cX7_comeTo 2 = .ok (.ishl, 1) := by decide +kernel
theorem dX7_comeTo_3 : decode cX7_comeTo 3 = .ok (.istore_n 3, 1) := by decide +kernel
theorem dX7_comeTo_4 : decode cX7_comeTo 4 = .ok (.iconst 1, 1) := by decide +kernel
theorem dX7_comeTo_5 : decode cX7_comeTo 5 = .ok (.istore 4, 2) := by decide +kernel
theorem dX7_comeTo_7 : decode cX7_comeTo 7 = .ok (.iload 4, 2) := by decide +kernel
theorem dX7_comeTo_9 : decode cX7_comeTo 9 = .ok (.ifCond .eq 93, 3) := by decide +kernel
theorem dX7_comeTo_12 : decode cX7_comeTo 12 = .ok (.iload_n 3, 1) := by decide +kernel
theorem dX7_comeTo_13 : decode cX7_comeTo 13 = .ok (.istore 5, 2) := by decide +kernel
theorem dX7_comeTo_15 : decode cX7_comeTo 15 = .ok (.iconst 0, 1) := by decide +kernel
theorem dX7_comeTo_16 : decode cX7_comeTo 16 = .ok (.istore 6, 2) := by decide +kernel
theorem dX7_comeTo_18 : decode cX7_comeTo 18 = .ok (.iload 6, 2) := by decide +kernel
theorem dX7_comeTo_20 : decode cX7_comeTo 20 = .ok (.bipush 28, 2) := by decide +kernel
theorem dX7_comeTo_22 : decode cX7_comeTo 22 = .ok (.if_icmp .ge 64, 3) := by decide +kernel
theorem dX7_comeTo_25 : decode cX7_comeTo 25 = .ok (.iload 6, 2) := by decide +kernel
theorem dX7_comeTo_27 : decode cX7_comeTo 27 = .ok (.invokestatic 29, 3) := by decide +kernel
theorem dX7_comeTo_30 : decode cX7_comeTo 30 = .ok (.ifCond .eq 29, 3) := by decide +kernel
theorem dX7_comeTo_33 : decode cX7_comeTo 33 = .ok (.aload_n 0, 1) := by decide +kernel
theorem dX7_comeTo_34 : decode cX7_comeTo 34 = .ok (.iload 6, 2) := by decide +kernel
theorem dX7_comeTo_36 : decode cX7_comeTo 36 = .ok (.iconst 0, 1) := by decide +kernel
theorem dX7_comeTo_37 : decode cX7_comeTo 37 = .ok (.invokevirtual 52, 3) := by decide +kernel
theorem dX7_comeTo_40 : decode cX7_comeTo 40 = .ok (.iload_n 2, 1) := by decide +kernel
theorem dX7_comeTo_41 : decode cX7_comeTo 41 = .ok (.if_icmp .lt 18, 3) := by decide +kernel
theorem dX7_comeTo_44 : decode cX7_comeTo 44 = .ok (.iload_n 3, 1) := by decide +kernel
theorem dX7_comeTo_45 : decode cX7_comeTo 45 = .ok (.aload_n 0, 1) := by decide +kernel
theorem dX7_comeTo_46 : decode cX7_comeTo 46 = .ok (.iload 6, 2) := by decide +kernel
theorem dX7_comeTo_48 : decode cX7_comeTo 48 = .ok (.invokevirtual 75, 3) := by decide +kernel
theorem dX7_comeTo_51 : decode cX7_comeTo 51 = .ok (.iand, 1) := by decide +kernel
theorem dX7_comeTo_52 : decode cX7_comeTo 52 = .ok (.ifCond .eq 7, 3) := by decide +kernel
theorem dX7_comeTo_55 : decode cX7_comeTo 55 = .ok (.iconst 1, 1) := by decide +kernel
theorem dX7_comeTo_56 : decode cX7_comeTo 56 = .ok (.goto 4, 3) := by decide +kernel
theorem dX7_comeTo_59 : decode cX7_comeTo 59 = .ok (.iconst 0, 1) := by decide +kernel
theorem dX7_comeTo_60 : decode cX7_comeTo 60 = .ok (.istore 7, 2) := by decide +kernel
theorem dX7_comeTo_62 : decode cX7_comeTo 62 = .ok (.iload_n 3, 1) := by decide +kernel
theorem dX7_comeTo_63 : decode cX7_comeTo 63 = .ok (.iload 7, 2) := by decide +kernel
theorem dX7_comeTo_65 : decode cX7_comeTo 65 = .ok (.ifCond .eq 12, 3) := by decide +kernel
theorem dX7_comeTo_68 : decode cX7_comeTo 68 = .ok (.aload_n 0, 1) := by decide +kernel
theorem dX7_comeTo_69 : decode cX7_comeTo 69 = .ok (.iload 6, 2) := by decide +kernel
theorem dX7_comeTo_71 : decode cX7_comeTo 71 = .ok (.invokevirtual 75, 3) := by decide +kernel
theorem dX7_comeTo_74 : decode cX7_comeTo 74 = .ok (.goto 4, 3) := by decide +kernel
theorem dX7_comeTo_77 : decode cX7_comeTo 77 = .ok (.iconst 0, 1) := by decide +kernel
theorem dX7_comeTo_78 : decode cX7_comeTo 78 = .ok (.ior, 1) := by decide +kernel
theorem dX7_comeTo_79 : decode cX7_comeTo 79 = .ok (.istore_n 3, 1) := by decide +kernel
theorem dX7_comeTo_80 : decode cX7_comeTo 80 = .ok (.iinc 6 1, 3) := by decide +kernel
theorem dX7_comeTo_83 : decode cX7_comeTo 83 = .ok (.goto (-65), 3) := by decide +kernel
theorem dX7_comeTo_86 : decode cX7_comeTo 86 = .ok (.iload_n 3, 1) := by decide +kernel
theorem dX7_comeTo_87 : decode cX7_comeTo 87 = .ok (.iload 5, 2) := by decide +kernel
theorem dX7_comeTo_89 : decode cX7_comeTo 89 = .ok (.if_icmp .eq 7, 3) := by decide +kernel
theorem dX7_comeTo_92 : decode cX7_comeTo 92 = .ok (.iconst 1, 1) := by decide +kernel
theorem dX7_comeTo_93 : decode cX7_comeTo 93 = .ok (.goto 4, 3) := by decide +kernel
theorem dX7_comeTo_96 : decode cX7_comeTo 96 = .ok (.iconst 0, 1) := by decide +kernel
theorem dX7_comeTo_97 : decode cX7_comeTo 97 = .ok (.istore 4, 2) := by decide +kernel
theorem dX7_comeTo_99 : decode cX7_comeTo 99 = .ok (.goto (-92), 3) := by decide +kernel
theorem dX7_comeTo_102 : decode cX7_comeTo 102 = .ok (.iload_n 3, 1) := by decide +kernel
theorem dX7_comeTo_103 : decode cX7_comeTo 103 = .ok (.ireturn, 1) := by decide +kernel
theorem dX7_roof_0 : decode cX7_roof 0 = .ok (.iload_n 1, 1) := by decide +kernel
theorem dX7_roof_1 : decode cX7_roof 1 = .ok (.invokestatic 121, 3) := by decide +kernel
theorem dX7_roof_4 : decode cX7_roof 4 = .ok (.ifCond .ne 5, 3) := by decide +kernel
theorem dX7_roof_7 : decode cX7_roof 7 = .ok (.iconst (-1), 1) := by decide +kernel
theorem dX7_roof_8 : decode cX7_roof 8 = .ok (.ireturn, 1) := by decide +kernel
theorem dX7_roof_9 : decode cX7_roof 9 = .ok (.iload_n 2, 1) := by decide +kernel
theorem dX7_roof_10 : decode cX7_roof 10 = .ok (.tableswitch 113 0 7 #[46, 58, 67, 73, 85, 91, 97, 103], 46) := by decide +kernel
theorem dX7_roof_56 : decode cX7_roof 56 = .ok (.aload_n 0, 1) := by decide +kernel
theorem dX7_roof_57 : decode cX7_roof 57 = .ok (.getfield 7, 3) := by decide +kernel
theorem dX7_roof_60 : decode cX7_roof 60 = .ok (.bipush 8, 2) := by decide +kernel
theorem dX7_roof_62 : decode cX7_roof 62 = .ok (.iaload, 1) := by decide +kernel
theorem dX7_roof_63 : decode cX7_roof 63 = .ok (.iload_n 1, 1) := by decide +kernel
theorem dX7_roof_64 : decode cX7_roof 64 = .ok (.ishr, 1) := by decide +kernel
theorem dX7_roof_65 : decode cX7_roof 65 = .ok (.iconst 1, 1) := by decide +kernel
theorem dX7_roof_66 : decode cX7_roof 66 = .ok (.iand, 1) := by decide +kernel
theorem dX7_roof_67 : decode cX7_roof 67 = .ok (.ireturn, 1) := by decide +kernel
theorem dX7_roof_68 : decode cX7_roof 68 = .ok (.aload_n 0, 1) := by decide +kernel
theorem dX7_roof_69 : decode cX7_roof 69 = .ok (.invokevirtual 78, 3) := by decide +kernel
theorem dX7_roof_72 : decode cX7_roof 72 = .ok (.iload_n 1, 1) := by decide +kernel
theorem dX7_roof_73 : decode cX7_roof 73 = .ok (.ishr, 1) := by decide +kernel
theorem dX7_roof_74 : decode cX7_roof 74 = .ok (.iconst 1, 1) := by decide +kernel
theorem dX7_roof_75 : decode cX7_roof 75 = .ok (.iand, 1) := by decide +kernel
theorem dX7_roof_76 : decode cX7_roof 76 = .ok (.ireturn, 1) := by decide +kernel
theorem dX7_roof_77 : decode cX7_roof 77 = .ok (.aload_n 0, 1) := by decide +kernel
theorem dX7_roof_78 : decode cX7_roof 78 = .ok (.iload_n 1, 1) := by decide +kernel
theorem dX7_roof_79 : decode cX7_roof 79 = .ok (.invokevirtual 192, 3) := by decide +kernel
theorem dX7_roof_82 : decode cX7_roof 82 = .ok (.ireturn, 1) := by decide +kernel
theorem dX7_roof_83 : decode cX7_roof 83 = .ok (.aload_n 0, 1) := by decide +kernel
theorem dX7_roof_84 : decode cX7_roof 84 = .ok (.getfield 7, 3) := by decide +kernel
theorem dX7_roof_87 : decode cX7_roof 87 = .ok (.bipush 9, 2) := by decide +kernel
theorem dX7_roof_89 : decode cX7_roof 89 = .ok (.iaload, 1) := by decide +kernel
theorem dX7_roof_90 : decode cX7_roof 90 = .ok (.iload_n 1, 1) := by decide +kernel
theorem dX7_roof_91 : decode cX7_roof 91 = .ok (.ishr, 1) := by decide +kernel
theorem dX7_roof_92 : decode cX7_roof 92 = .ok (.iconst 1, 1) := by decide +kernel
theorem dX7_roof_93 : decode cX7_roof 93 = .ok (.iand, 1) := by decide +kernel
theorem dX7_roof_94 : decode cX7_roof 94 = .ok (.ireturn, 1) := by decide +kernel
theorem dX7_roof_95 : decode cX7_roof 95 = .ok (.aload_n 0, 1) := by decide +kernel
theorem dX7_roof_96 : decode cX7_roof 96 = .ok (.iload_n 1, 1) := by decide +kernel
theorem dX7_roof_97 : decode cX7_roof 97 = .ok (.invokevirtual 195, 3) := by decide +kernel
theorem dX7_roof_100 : decode cX7_roof 100 = .ok (.ireturn, 1) := by decide +kernel
theorem dX7_roof_101 : decode cX7_roof 101 = .ok (.aload_n 0, 1) := by decide +kernel
theorem dX7_roof_102 : decode cX7_roof 102 = .ok (.iload_n 1, 1) := by decide +kernel
theorem dX7_roof_103 : decode cX7_roof 103 = .ok (.invokevirtual 198, 3) := by decide +kernel
theorem dX7_roof_106 : decode cX7_roof 106 = .ok (.ireturn, 1) := by decide +kernel
theorem dX7_roof_107 : decode cX7_roof 107 = .ok (.aload_n 0, 1) := by decide +kernel
theorem dX7_roof_108 : decode cX7_roof 108 = .ok (.iload_n 1, 1) := by decide +kernel
theorem dX7_roof_109 : decode cX7_roof 109 = .ok (.invokevirtual 201, 3) := by decide +kernel
theorem dX7_roof_112 : decode cX7_roof 112 = .ok (.ireturn, 1) := by decide +kernel
theorem dX7_roof_113 : decode cX7_roof 113 = .ok (.aload_n 0, 1) := by decide +kernel
theorem dX7_roof_114 : decode cX7_roof 114 = .ok (.iload_n 1, 1) := by decide +kernel
theorem dX7_roof_115 : decode cX7_roof 115 = .ok (.iconst 1, 1) := by decide +kernel
theorem dX7_roof_116 : decode cX7_roof 116 = .ok (.invokevirtual 204, 3) := by decide +kernel
theorem dX7_roof_119 : decode cX7_roof 119 = .ok (.invokestatic 112, 3) := by decide +kernel
theorem dX7_roof_122 : decode cX7_roof 122 = .ok (.ireturn, 1) := by decide +kernel
theorem dX7_roof_123 : decode cX7_roof 123 = .ok (.iconst (-1), 1) := by decide +kernel
theorem dX7_roof_124 : decode cX7_roof 124 = .ok (.ireturn, 1) := by decide +kernel
theorem dX7_gangway_0 : decode cX7_gangway 0 = .ok (.iload_n 1, 1) := by decide +kernel
theorem dX7_gangway_1 : decode cX7_gangway 1 = .ok (.invokestatic 29, 3) := by decide +kernel
theorem dX7_gangway_4 : decode cX7_gangway 4 = .ok (.ifCond .ne 5, 3) := by decide +kernel
theorem dX7_gangway_7 : decode cX7_gangway 7 = .ok (.iconst (-1), 1) := by decide +kernel
theorem dX7_gangway_8 : decode cX7_gangway 8 = .ok (.ireturn, 1) := by decide +kernel
theorem dX7_gangway_9 : decode cX7_gangway 9 = .ok (.iload_n 2, 1) := by decide +kernel
theorem dX7_gangway_10 : decode cX7_gangway 10 = .ok (.tableswitch 117 0 6 #[42, 49, 54, 59, 81, 81, 103], 42) := by decide +kernel
theorem dX7_gangway_52 : decode cX7_gangway 52 = .ok (.aload_n 0, 1) := by decide +kernel
theorem dX7_gangway_53 : decode cX7_gangway 53 = .ok (.iload_n 1, 1) := by decide +kernel
theorem dX7_gangway_54 : decode cX7_gangway 54 = .ok (.iconst 0, 1) := by decide +kernel
theorem dX7_gangway_55 : decode cX7_gangway 55 = .ok (.invokevirtual 52, 3) := by decide +kernel
theorem dX7_gangway_58 : decode cX7_gangway 58 = .ok (.ireturn, 1) := by decide +kernel
theorem dX7_gangway_59 : decode cX7_gangway 59 = .ok (.iload_n 1, 1) := by decide +kernel
theorem dX7_gangway_60 : decode cX7_gangway 60 = .ok (.invokestatic 45, 3) := by decide +kernel
theorem dX7_gangway_63 : decode cX7_gangway 63 = .ok (.ireturn, 1) := by decide +kernel
theorem dX7_gangway_64 : decode cX7_gangway 64 = .ok (.iload_n 1, 1) := by decide +kernel
theorem dX7_gangway_65 : decode cX7_gangway 65 = .ok (.invokestatic 49, 3) := by decide +kernel
theorem dX7_gangway_68 : decode cX7_gangway 68 = .ok (.ireturn, 1) := by decide +kernel
theorem dX7_gangway_69 : decode cX7_gangway 69 = .ok (.aload_n 0, 1) := by decide +kernel
theorem dX7_gangway_70 : decode cX7_gangway 70 = .ok (.iload_n 1, 1) := by decide +kernel
theorem dX7_gangway_71 : decode cX7_gangway 71 = .ok (.invokevirtual 56, 3) := by decide +kernel
theorem dX7_gangway_74 : decode cX7_gangway 74 = .ok (.ifCond .eq 14, 3) := by decide +kernel
theorem dX7_gangway_77 : decode cX7_gangway 77 = .ok (.aload_n 0, 1) := by decide +kernel
theorem dX7_gangway_78 : decode cX7_gangway 78 = .ok (.iload_n 1, 1) := by decide +kernel
theorem dX7_gangway_79 : decode cX7_gangway 79 = .ok (.iconst 1, 1) := by decide +kernel
theorem dX7_gangway_80 : decode cX7_gangway 80 = .ok (.invokevirtual 52, 3) := by decide +kernel
theorem dX7_gangway_83 : decode cX7_gangway 83 = .ok (.iconst 1, 1) := by decide +kernel
theorem dX7_gangway_84 : decode cX7_gangway 84 = .ok (.isub, 1) := by decide +kernel
theorem dX7_gangway_85 : decode cX7_gangway 85 = .ok (.goto 5, 3) := by decide +kernel
theorem dX7_gangway_88 : decode cX7_gangway 88 = .ok (.bipush (-4), 2) := by decide +kernel
theorem dX7_gangway_90 : decode cX7_gangway 90 = .ok (.ireturn, 1) := by decide +kernel
theorem dX7_gangway_91 : decode cX7_gangway 91 = .ok (.aload_n 0, 1) := by decide +kernel
theorem dX7_gangway_92 : decode cX7_gangway 92 = .ok (.iload_n 1, 1) := by decide +kernel
theorem dX7_gangway_93 : decode cX7_gangway 93 = .ok (.invokevirtual 56, 3) := by decide +kernel
theorem dX7_gangway_96 : decode cX7_gangway 96 = .ok (.ifCond .eq 14, 3) := by decide +kernel
theorem dX7_gangway_99 : decode cX7_gangway 99 = .ok (.aload_n 0, 1) := by decide +kernel
theorem dX7_gangway_100 : decode cX7_gangway 100 = .ok (.iload_n 1, 1) := by decide +kernel
theorem dX7_gangway_101 : decode cX7_gangway 101 = .ok (.iload_n 2, 1) := by decide +kernel
theorem dX7_gangway_102 : decode cX7_gangway 102 = .ok (.iconst 2, 1) := by decide +kernel
theorem dX7_gangway_103 : decode cX7_gangway 103 = .ok (.isub, 1) := by decide +kernel
theorem dX7_gangway_104 : decode cX7_gangway 104 = .ok (.invokevirtual 52, 3) := by decide +kernel
theorem dX7_gangway_107 : decode cX7_gangway 107 = .ok (.goto 5, 3) := by decide +kernel
theorem dX7_gangway_110 : decode cX7_gangway 110 = .ok (.bipush (-4), 2) := by decide +kernel
theorem dX7_gangway_112 : decode cX7_gangway 112 = .ok (.ireturn, 1) := by decide +kernel
theorem dX7_gangway_113 : decode cX7_gangway 113 = .ok (.aload_n 0, 1) := by decide +kernel
theorem dX7_gangway_114 : decode cX7_gangway 114 = .ok (.invokevirtual 78, 3) := by decide +kernel
theorem dX7_gangway_117 : decode cX7_gangway 117 = .ok (.aload_n 0, 1) := by decide +kernel
theorem dX7_gangway_118 : decode cX7_gangway 118 = .ok (.iload_n 1, 1) := by decide +kernel
theorem dX7_gangway_119 : decode cX7_gangway 119 = .ok (.invokevirtual 75, 3) := by decide +kernel
theorem dX7_gangway_122 : decode cX7_gangway 122 = .ok (.iand, 1) := by decide +kernel
theorem dX7_gangway_123 : decode cX7_gangway 123 = .ok (.invokestatic 112, 3) := by decide +kernel
theorem dX7_gangway_126 : decode cX7_gangway 126 = .ok (.ireturn, 1) := by decide +kernel
theorem dX7_gangway_127 : decode cX7_gangway 127 = .ok (.iconst (-1), 1) := by decide +kernel
theorem dX7_gangway_128 : decode cX7_gangway 128 = .ok (.ireturn, 1) := by decide +kernel
theorem dX7_linesOf_0 : decode cX7_linesOf 0 = .ok (.iconst 0, 1) := by decide +kernel
theorem dX7_linesOf_1 : decode cX7_linesOf 1 = .ok (.istore_n 3, 1) := by decide +kernel
theorem dX7_linesOf_2 : decode cX7_linesOf 2 = .ok (.iconst 0, 1) := by decide +kernel
theorem dX7_linesOf_3 : decode cX7_linesOf 3 = .ok (.istore 4, 2) := by decide +kernel
theorem dX7_linesOf_5 : decode cX7_linesOf 5 = .ok (.iload 4, 2) := by decide +kernel
theorem dX7_linesOf_7 : decode cX7_linesOf 7 = .ok (.bipush 28, 2) := by decide +kernel
theorem dX7_linesOf_9 : decode cX7_linesOf 9 = .ok (.if_icmp .ge 43, 3) := by decide +kernel
theorem dX7_linesOf_12 : decode cX7_linesOf 12 = .ok (.iload_n 3, 1) := by decide +kernel
theorem dX7_linesOf_13 : decode cX7_linesOf 13 = .ok (.aload_n 0, 1) := by decide +kernel
theorem dX7_linesOf_14 : decode cX7_linesOf 14 = .ok (.iload 4, 2) := by decide +kernel
theorem dX7_linesOf_16 : decode cX7_linesOf 16 = .ok (.iconst 1, 1) := by decide +kernel
theorem dX7_linesOf_17 : decode cX7_linesOf 17 = .ok (.invokevirtual 52, 3) := by decide +kernel
theorem dX7_linesOf_20 : decode cX7_linesOf 20 = .ok (.iload_n 1, 1) := by decide +kernel
theorem dX7_linesOf_21 : decode cX7_linesOf 21 = .ok (.iconst 1, 1) := by decide +kernel
theorem dX7_linesOf_22 : decode cX7_linesOf 22 = .ok (.iadd, 1) := by decide +kernel
theorem dX7_linesOf_23 : decode cX7_linesOf 23 = .ok (.if_icmp .ne 20, 3) := by decide +kernel
theorem dX7_linesOf_26 : decode cX7_linesOf 26 = .ok (.iload_n 2, 1) := by decide +kernel
theorem dX7_linesOf_27 : decode cX7_linesOf 27 = .ok (.ifCond .eq 12, 3) := by decide +kernel
theorem dX7_linesOf_30 : decode cX7_linesOf 30 = .ok (.aload_n 0, 1) := by decide +kernel
theorem dX7_linesOf_31 : decode cX7_linesOf 31 = .ok (.iload 4, 2) := by decide +kernel
theorem dX7_linesOf_33 : decode cX7_linesOf 33 = .ok (.invokevirtual 88, 3) := by decide +kernel
theorem dX7_linesOf_36 : decode cX7_linesOf 36 = .ok (.ifCond .eq 7, 3) := by decide +kernel
theorem dX7_linesOf_39 : decode cX7_linesOf 39 = .ok (.iconst 1, 1) := by decide +kernel
theorem dX7_linesOf_40 : decode cX7_linesOf 40 = .ok (.goto 4, 3) := by decide +kernel
theorem dX7_linesOf_43 : decode cX7_linesOf 43 = .ok (.iconst 0, 1) := by decide +kernel
theorem dX7_linesOf_44 : decode cX7_linesOf 44 = .ok (.iadd, 1) := by decide +kernel
theorem dX7_linesOf_45 : decode cX7_linesOf 45 = .ok (.istore_n 3, 1) := by decide +kernel
theorem dX7_linesOf_46 : decode cX7_linesOf 46 = .ok (.iinc 4 1, 3) := by decide +kernel
theorem dX7_linesOf_49 : decode cX7_linesOf 49 = .ok (.goto (-44), 3) := by decide +kernel
theorem dX7_linesOf_52 : decode cX7_linesOf 52 = .ok (.iload_n 3, 1) := by decide +kernel
theorem dX7_linesOf_53 : decode cX7_linesOf 53 = .ok (.ireturn, 1) := by decide +kernel
theorem dX7_walksNow_0 : decode cX7_walksNow 0 = .ok (.iconst 0, 1) := by decide +kernel
theorem dX7_walksNow_1 : decode cX7_walksNow 1 = .ok (.istore_n 2, 1) := by decide +kernel
theorem dX7_walksNow_2 : decode cX7_walksNow 2 = .ok (.aload_n 0, 1) := by decide +kernel
theorem dX7_walksNow_3 : decode cX7_walksNow 3 = .ok (.iload_n 1, 1) := by decide +kernel
theorem dX7_walksNow_4 : decode cX7_walksNow 4 = .ok (.iconst 3, 1) := by decide +kernel
theorem dX7_walksNow_5 : decode cX7_walksNow 5 = .ok (.invokevirtual 72, 3) := by decide +kernel
theorem dX7_walksNow_8 : decode cX7_walksNow 8 = .ok (.istore_n 3, 1) := by decide +kernel
theorem dX7_walksNow_9 : decode cX7_walksNow 9 = .ok (.iconst 0, 1) := by decide +kernel
theorem dX7_walksNow_10 : decode cX7_walksNow 10 = .ok (.istore 4, 2) := by decide +kernel
theorem dX7_walksNow_12 : decode cX7_walksNow 12 = .ok (.iload 4, 2) := by decide +kernel
theorem dX7_walksNow_14 : decode cX7_walksNow 14 = .ok (.bipush 28, 2) := by decide +kernel
theorem dX7_walksNow_16 : decode cX7_walksNow 16 = .ok (.if_icmp .ge 37, 3) := by decide +kernel
theorem dX7_walksNow_19 : decode cX7_walksNow 19 = .ok (.iload_n 2, 1) := by decide +kernel
theorem dX7_walksNow_20 : decode cX7_walksNow 20 = .ok (.iload 4, 2) := by decide +kernel
theorem dX7_walksNow_22 : decode cX7_walksNow 22 = .ok (.iload_n 3, 1) := by decide +kernel
theorem dX7_walksNow_23 : decode cX7_walksNow 23 = .ok (.invokestatic 136, 3) := by decide +kernel
theorem dX7_walksNow_26 : decode cX7_walksNow 26 = .ok (.ifCond .eq 18, 3) := by decide +kernel
theorem dX7_walksNow_29 : decode cX7_walksNow 29 = .ok (.aload_n 0, 1) := by decide +kernel
theorem dX7_walksNow_30 : decode cX7_walksNow 30 = .ok (.iload_n 1, 1) := by decide +kernel
theorem dX7_walksNow_31 : decode cX7_walksNow 31 = .ok (.iload 4, 2) := by decide +kernel
theorem dX7_walksNow_33 : decode cX7_walksNow 33 = .ok (.iload_n 3, 1) := by decide +kernel
theorem dX7_walksNow_34 : decode cX7_walksNow 34 = .ok (.invokevirtual 108, 3) := by decide +kernel
theorem dX7_walksNow_37 : decode cX7_walksNow 37 = .ok (.ifCond .ne 7, 3) := by decide +kernel
theorem dX7_walksNow_40 : decode cX7_walksNow 40 = .ok (.iconst 1, 1) := by decide +kernel
theorem dX7_walksNow_41 : decode cX7_walksNow 41 = .ok (.goto 4, 3) := by decide +kernel
theorem dX7_walksNow_44 : decode cX7_walksNow 44 = .ok (.iconst 0, 1) := by decide +kernel
theorem dX7_walksNow_45 : decode cX7_walksNow 45 = .ok (.iadd, 1) := by decide +kernel
theorem dX7_walksNow_46 : decode cX7_walksNow 46 = .ok (.istore_n 2, 1) := by decide +kernel
theorem dX7_walksNow_47 : decode cX7_walksNow 47 = .ok (.iinc 4 1, 3) := by decide +kernel
theorem dX7_walksNow_50 : decode cX7_walksNow 50 = .ok (.goto (-38), 3) := by decide +kernel
theorem dX7_walksNow_53 : decode cX7_walksNow 53 = .ok (.iload_n 2, 1) := by decide +kernel
theorem dX7_walksNow_54 : decode cX7_walksNow 54 = .ok (.ireturn, 1) := by decide +kernel
theorem dX7_hangsNow_0 : decode cX7_hangsNow 0 = .ok (.iconst 0, 1) := by decide +kernel
theorem dX7_hangsNow_1 : decode cX7_hangsNow 1 = .ok (.istore_n 2, 1) := by decide +kernel
theorem dX7_hangsNow_2 : decode cX7_hangsNow 2 = .ok (.iconst 0, 1) := by decide +kernel
theorem dX7_hangsNow_3 : decode cX7_hangsNow 3 = .ok (.istore_n 3, 1) := by decide +kernel
theorem dX7_hangsNow_4 : decode cX7_hangsNow 4 = .ok (.iload_n 3, 1) := by decide +kernel
theorem dX7_hangsNow_5 : decode cX7_hangsNow 5 = .ok (.bipush 28, 2) := by decide +kernel
theorem dX7_hangsNow_7 : decode cX7_hangsNow 7 = .ok (.if_icmp .ge 33, 3) := by decide +kernel
theorem dX7_hangsNow_10 : decode cX7_hangsNow 10 = .ok (.iload_n 2, 1) := by decide +kernel
theorem dX7_hangsNow_11 : decode cX7_hangsNow 11 = .ok (.iload_n 3, 1) := by decide +kernel
theorem dX7_hangsNow_12 : decode cX7_hangsNow 12 = .ok (.invokestatic 29, 3) := by decide +kernel
theorem dX7_hangsNow_15 : decode cX7_hangsNow 15 = .ok (.ifCond .eq 16, 3) := by decide +kernel
theorem dX7_hangsNow_18 : decode cX7_hangsNow 18 = .ok (.aload_n 0, 1) := by decide +kernel
theorem dX7_hangsNow_19 : decode cX7_hangsNow 19 = .ok (.iload_n 1, 1) := by decide +kernel
theorem dX7_hangsNow_20 : decode cX7_hangsNow 20 = .ok (.iload_n 3, 1) := by decide +kernel
theorem dX7_hangsNow_21 : decode cX7_hangsNow 21 = .ok (.invokevirtual 95, 3) := by decide +kernel
theorem dX7_hangsNow_24 : decode cX7_hangsNow 24 = .ok (.ifCond .ne 7, 3) := by decide +kernel
theorem dX7_hangsNow_27 : decode cX7_hangsNow 27 = .ok (.iconst 1, 1) := by decide +kernel
theorem dX7_hangsNow_28 : decode cX7_hangsNow 28 = .ok (.goto 4, 3) := by decide +kernel
theorem dX7_hangsNow_31 : decode cX7_hangsNow 31 = .ok (.iconst 0, 1) := by decide +kernel
theorem dX7_hangsNow_32 : decode cX7_hangsNow 32 = .ok (.iadd, 1) := by decide +kernel
theorem dX7_hangsNow_33 : decode cX7_hangsNow 33 = .ok (.istore_n 2, 1) := by decide +kernel
theorem dX7_hangsNow_34 : decode cX7_hangsNow 34 = .ok (.iinc 3 1, 3) := by decide +kernel
theorem dX7_hangsNow_37 : decode cX7_hangsNow 37 = .ok (.goto (-33), 3) := by decide +kernel
theorem dX7_hangsNow_40 : decode cX7_hangsNow 40 = .ok (.iload_n 2, 1) := by decide +kernel
theorem dX7_hangsNow_41 : decode cX7_hangsNow 41 = .ok (.ireturn, 1) := by decide +kernel
theorem dX7_ownerOf_0 : decode cX7_ownerOf 0 = .ok (.iload_n 1, 1) := by decide +kernel
theorem dX7_ownerOf_1 : decode cX7_ownerOf 1 = .ok (.invokestatic 127, 3) := by decide +kernel
theorem dX7_ownerOf_4 : decode cX7_ownerOf 4 = .ok (.ifCond .ne 5, 3) := by decide +kernel
theorem dX7_ownerOf_7 : decode cX7_ownerOf 7 = .ok (.iconst (-1), 1) := by decide +kernel
theorem dX7_ownerOf_8 : decode cX7_ownerOf 8 = .ok (.ireturn, 1) := by decide +kernel
theorem dX7_ownerOf_9 : decode cX7_ownerOf 9 = .ok (.iload_n 2, 1) := by decide +kernel
theorem dX7_ownerOf_10 : decode cX7_ownerOf 10 = .ok (.tableswitch 92 0 8 #[50, 50, 50, 50, 57, 57, 73, 79, 86], 50) := by decide +kernel
theorem dX7_ownerOf_60 : decode cX7_ownerOf 60 = .ok (.aload_n 0, 1) := by decide +kernel
theorem dX7_ownerOf_61 : decode cX7_ownerOf 61 = .ok (.iload_n 1, 1) := by decide +kernel
theorem dX7_ownerOf_62 : decode cX7_ownerOf 62 = .ok (.iload_n 2, 1) := by decide +kernel
theorem dX7_ownerOf_63 : decode cX7_ownerOf 63 = .ok (.invokevirtual 72, 3) := by decide +kernel
theorem dX7_ownerOf_66 : decode cX7_ownerOf 66 = .ok (.ireturn, 1) := by decide +kernel
theorem dX7_ownerOf_67 : decode cX7_ownerOf 67 = .ok (.aload_n 0, 1) := by decide +kernel
theorem dX7_ownerOf_68 : decode cX7_ownerOf 68 = .ok (.iload_n 1, 1) := by decide +kernel
theorem dX7_ownerOf_69 : decode cX7_ownerOf 69 = .ok (.iload_n 2, 1) := by decide +kernel
theorem dX7_ownerOf_70 : decode cX7_ownerOf 70 = .ok (.iconst 5, 1) := by decide +kernel
theorem dX7_ownerOf_71 : decode cX7_ownerOf 71 = .ok (.if_icmp .ne 7, 3) := by decide +kernel
theorem dX7_ownerOf_74 : decode cX7_ownerOf 74 = .ok (.iconst 1, 1) := by decide +kernel
theorem dX7_ownerOf_75 : decode cX7_ownerOf 75 = .ok (.goto 4, 3) := by decide +kernel
theorem dX7_ownerOf_78 : decode cX7_ownerOf 78 = .ok (.iconst 0, 1) := by decide +kernel
theorem dX7_ownerOf_79 : decode cX7_ownerOf 79 = .ok (.invokevirtual 207, 3) := by decide +kernel
theorem dX7_ownerOf_82 : decode cX7_ownerOf 82 = .ok (.ireturn, 1) := by decide +kernel
theorem dX7_ownerOf_83 : decode cX7_ownerOf 83 = .ok (.aload_n 0, 1) := by decide +kernel
theorem dX7_ownerOf_84 : decode cX7_ownerOf 84 = .ok (.iload_n 1, 1) := by decide +kernel
theorem dX7_ownerOf_85 : decode cX7_ownerOf 85 = .ok (.invokevirtual 211, 3) := by decide +kernel
theorem dX7_ownerOf_88 : decode cX7_ownerOf 88 = .ok (.ireturn, 1) := by decide +kernel
theorem dX7_ownerOf_89 : decode cX7_ownerOf 89 = .ok (.aload_n 0, 1) := by decide +kernel
theorem dX7_ownerOf_90 : decode cX7_ownerOf 90 = .ok (.iload_n 1, 1) := by decide +kernel
theorem dX7_ownerOf_91 : decode cX7_ownerOf 91 = .ok (.iconst 4, 1) := by decide +kernel
theorem dX7_ownerOf_92 : decode cX7_ownerOf 92 = .ok (.invokevirtual 72, 3) := by decide +kernel
theorem dX7_ownerOf_95 : decode cX7_ownerOf 95 = .ok (.ireturn, 1) := by decide +kernel
theorem dX7_ownerOf_96 : decode cX7_ownerOf 96 = .ok (.aload_n 0, 1) := by decide +kernel
theorem dX7_ownerOf_97 : decode cX7_ownerOf 97 = .ok (.iload_n 1, 1) := by decide +kernel
theorem dX7_ownerOf_98 : decode cX7_ownerOf 98 = .ok (.invokevirtual 214, 3) := by decide +kernel
theorem dX7_ownerOf_101 : decode cX7_ownerOf 101 = .ok (.ireturn, 1) := by decide +kernel
theorem dX7_ownerOf_102 : decode cX7_ownerOf 102 = .ok (.iconst (-1), 1) := by decide +kernel
theorem dX7_ownerOf_103 : decode cX7_ownerOf 103 = .ok (.ireturn, 1) := by decide +kernel
theorem dX7_whyNotHang_0 : decode cX7_whyNotHang 0 = .ok (.iload_n 1, 1) := by decide +kernel
theorem dX7_whyNotHang_1 : decode cX7_whyNotHang 1 = .ok (.invokestatic 127, 3) := by decide +kernel
theorem dX7_whyNotHang_4 : decode cX7_whyNotHang 4 = .ok (.ifCond .eq 19, 3) := by decide +kernel
theorem dX7_whyNotHang_7 : decode cX7_whyNotHang 7 = .ok (.iload_n 2, 1) := by decide +kernel
theorem dX7_whyNotHang_8 : decode cX7_whyNotHang 8 = .ok (.invokestatic 29, 3) := by decide +kernel
theorem dX7_whyNotHang_11 : decode cX7_whyNotHang 11 = .ok (.ifCond .eq 12, 3) := by decide +kernel
theorem dX7_whyNotHang_14 : decode cX7_whyNotHang 14 = .ok (.aload_n 0, 1) := by decide +kernel
theorem dX7_whyNotHang_15 : decode cX7_whyNotHang 15 = .ok (.iload_n 1, 1) := by decide +kernel
theorem dX7_whyNotHang_16 : decode cX7_whyNotHang 16 = .ok (.iload_n 2, 1) := by decide +kernel
theorem dX7_whyNotHang_17 : decode cX7_whyNotHang 17 = .ok (.invokevirtual 95, 3) := by decide +kernel
theorem dX7_whyNotHang_20 : decode cX7_whyNotHang 20 = .ok (.goto 4, 3) := by decide +kernel
theorem dX7_whyNotHang_23 : decode cX7_whyNotHang 23 = .ok (.iconst (-1), 1) := by decide +kernel
theorem dX7_whyNotHang_24 : decode cX7_whyNotHang 24 = .ok (.ireturn, 1) := by decide +kernel
theorem dX7_strengthOf_0 : decode cX7_strengthOf 0 = .ok (.bipush (-4), 2) := by decide +kernel
theorem dX7_strengthOf_2 : decode cX7_strengthOf 2 = .ok (.istore_n 3, 1) := by decide +kernel
theorem dX7_strengthOf_3 : decode cX7_strengthOf 3 = .ok (.iconst 1, 1) := by decide +kernel
theorem dX7_strengthOf_4 : decode cX7_strengthOf 4 = .ok (.istore 4, 2) := by decide +kernel
theorem dX7_strengthOf_6 : decode cX7_strengthOf 6 = .ok (.iload 4, 2) := by decide +kernel
theorem dX7_strengthOf_8 : decode cX7_strengthOf 8 = .ok (.bipush 10, 2) := by decide +kernel
theorem dX7_strengthOf_10 : decode cX7_strengthOf 10 = .ok (.if_icmp .ge 30, 3) := by decide +kernel
theorem dX7_strengthOf_13 : decode cX7_strengthOf 13 = .ok (.aload_n 0, 1) := by decide +kernel
theorem dX7_strengthOf_14 : decode cX7_strengthOf 14 = .ok (.iload_n 1, 1) := by decide +kernel
theorem dX7_strengthOf_15 : decode cX7_strengthOf 15 = .ok (.iload 4, 2) := by decide +kernel
theorem dX7_strengthOf_17 : decode cX7_strengthOf 17 = .ok (.invokevirtual 204, 3) := by decide +kernel
theorem dX7_strengthOf_20 : decode cX7_strengthOf 20 = .ok (.iload_n 2, 1) := by decide +kernel
theorem dX7_strengthOf_21 : decode cX7_strengthOf 21 = .ok (.invokestatic 62, 3) := by decide +kernel
theorem dX7_strengthOf_24 : decode cX7_strengthOf 24 = .ok (.ifCond .eq 8, 3) := by decide +kernel
theorem dX7_strengthOf_27 : decode cX7_strengthOf 27 = .ok (.iload 4, 2) := by decide +kernel
theorem dX7_strengthOf_29 : decode cX7_strengthOf 29 = .ok (.goto 4, 3) := by decide +kernel
theorem dX7_strengthOf_32 : decode cX7_strengthOf 32 = .ok (.iload_n 3, 1) := by decide +kernel
theorem dX7_strengthOf_33 : decode cX7_strengthOf 33 = .ok (.istore_n 3, 1) := by decide +kernel
theorem dX7_strengthOf_34 : decode cX7_strengthOf 34 = .ok (.iinc 4 1, 3) := by decide +kernel
theorem dX7_strengthOf_37 : decode cX7_strengthOf 37 = .ok (.goto (-31), 3) := by decide +kernel
theorem dX7_strengthOf_40 : decode cX7_strengthOf 40 = .ok (.iload_n 1, 1) := by decide +kernel
theorem dX7_strengthOf_41 : decode cX7_strengthOf 41 = .ok (.iload_n 2, 1) := by decide +kernel
theorem dX7_strengthOf_42 : decode cX7_strengthOf 42 = .ok (.if_icmp .ne 8, 3) := by decide +kernel
theorem dX7_strengthOf_45 : decode cX7_strengthOf 45 = .ok (.bipush 10, 2) := by decide +kernel
theorem dX7_strengthOf_47 : decode cX7_strengthOf 47 = .ok (.goto 4, 3) := by decide +kernel
theorem dX7_strengthOf_50 : decode cX7_strengthOf 50 = .ok (.iload_n 3, 1) := by decide +kernel
theorem dX7_strengthOf_51 : decode cX7_strengthOf 51 = .ok (.ireturn, 1) := by decide +kernel
theorem dX7_strongest_0 : decode cX7_strongest 0 = .ok (.iload_n 1, 1) := by decide +kernel
theorem dX7_strongest_1 : decode cX7_strongest 1 = .ok (.invokestatic 121, 3) := by decide +kernel
theorem dX7_strongest_4 : decode cX7_strongest 4 = .ok (.ifCond .eq 28, 3) := by decide +kernel
theorem dX7_strongest_7 : decode cX7_strongest 7 = .ok (.iload_n 2, 1) := by decide +kernel
theorem dX7_strongest_8 : decode cX7_strongest 8 = .ok (.invokestatic 121, 3) := by decide +kernel
theorem dX7_strongest_11 : decode cX7_strongest 11 = .ok (.ifCond .eq 21, 3) := by decide +kernel
theorem dX7_strongest_14 : decode cX7_strongest 14 = .ok (.iload_n 3, 1) := by decide +kernel
theorem dX7_strongest_15 : decode cX7_strongest 15 = .ok (.iconst 0, 1) := by decide +kernel
theorem dX7_strongest_16 : decode cX7_strongest 16 = .ok (.iconst 1, 1) := by decide +kernel
theorem dX7_strongest_17 : decode cX7_strongest 17 = .ok (.invokestatic 41, 3) := by decide +kernel
theorem dX7_strongest_20 : decode cX7_strongest 20 = .ok (.ifCond .eq 12, 3) := by decide +kernel
theorem dX7_strongest_23 : decode cX7_strongest 23 = .ok (.aload_n 0, 1) := by decide +kernel
theorem dX7_strongest_24 : decode cX7_strongest 24 = .ok (.iload_n 1, 1) := by decide +kernel
theorem dX7_strongest_25 : decode cX7_strongest 25 = .ok (.iload_n 2, 1) := by decide +kernel
theorem dX7_strongest_26 : decode cX7_strongest 26 = .ok (.invokevirtual 217, 3) := by decide +kernel
theorem dX7_strongest_29 : decode cX7_strongest 29 = .ok (.goto 4, 3) := by decide +kernel
theorem dX7_strongest_32 : decode cX7_strongest 32 = .ok (.iconst (-1), 1) := by decide +kernel
theorem dX7_strongest_33 : decode cX7_strongest 33 = .ok (.ireturn, 1) := by decide +kernel
theorem dX7_furtherFrom_0 : decode cX7_furtherFrom 0 = .ok (.iload_n 2, 1) := by decide +kernel
theorem dX7_furtherFrom_1 : decode cX7_furtherFrom 1 = .ok (.istore_n 3, 1) := by decide +kernel
theorem dX7_furtherFrom_2 : decode cX7_furtherFrom 2 = .ok (.iconst 0, 1) := by decide +kernel
theorem dX7_furtherFrom_3 : decode cX7_furtherFrom 3 = .ok (.istore 4, 2) := by decide +kernel
theorem dX7_furtherFrom_5 : decode cX7_furtherFrom 5 = .ok (.iload 4, 2) := by decide +kernel
theorem dX7_furtherFrom_7 : decode cX7_furtherFrom 7 = .ok (.bipush 28, 2) := by decide +kernel
theorem dX7_furtherFrom_9 : decode cX7_furtherFrom 9 = .ok (.if_icmp .ge 95, 3) := by decide +kernel
theorem dX7_furtherFrom_12 : decode cX7_furtherFrom 12 = .ok (.iload 4, 2) := by decide +kernel
theorem dX7_furtherFrom_14 : decode cX7_furtherFrom 14 = .ok (.invokestatic 45, 3) := by decide +kernel
theorem dX7_furtherFrom_17 : decode cX7_furtherFrom 17 = .ok (.istore 5, 2) := by decide +kernel
theorem dX7_furtherFrom_19 : decode cX7_furtherFrom 19 = .ok (.iload 4, 2) := by decide +kernel
theorem dX7_furtherFrom_21 : decode cX7_furtherFrom 21 = .ok (.invokestatic 49, 3) := by decide +kernel
theorem dX7_furtherFrom_24 : decode cX7_furtherFrom 24 = .ok (.istore 6, 2) := by decide +kernel
theorem dX7_furtherFrom_26 : decode cX7_furtherFrom 26 = .ok (.iload 4, 2) := by decide +kernel
theorem dX7_furtherFrom_28 : decode cX7_furtherFrom 28 = .ok (.invokestatic 29, 3) := by decide +kernel
theorem dX7_furtherFrom_31 : decode cX7_furtherFrom 31 = .ok (.ifCond .eq 67, 3) := by decide +kernel
theorem dX7_furtherFrom_34 : decode cX7_furtherFrom 34 = .ok (.iload_n 3, 1) := by decide +kernel
theorem dX7_furtherFrom_35 : decode cX7_furtherFrom 35 = .ok (.iload_n 2, 1) := by decide +kernel
theorem dX7_furtherFrom_36 : decode cX7_furtherFrom 36 = .ok (.iload 5, 2) := by decide +kernel
theorem dX7_furtherFrom_38 : decode cX7_furtherFrom 38 = .ok (.invokestatic 62, 3) := by decide +kernel
theorem dX7_furtherFrom_41 : decode cX7_furtherFrom 41 = .ok (.ifCond .eq 22, 3) := by decide +kernel
theorem dX7_furtherFrom_44 : decode cX7_furtherFrom 44 = .ok (.aload_n 0, 1) := by decide +kernel
theorem dX7_furtherFrom_45 : decode cX7_furtherFrom 45 = .ok (.iload_n 1, 1) := by decide +kernel
theorem dX7_furtherFrom_46 : decode cX7_furtherFrom 46 = .ok (.iload 4, 2) := by decide +kernel
theorem dX7_furtherFrom_48 : decode cX7_furtherFrom 48 = .ok (.iload 5, 2) := by decide +kernel
theorem dX7_furtherFrom_50 : decode cX7_furtherFrom 50 = .ok (.invokevirtual 108, 3) := by decide +kernel
theorem dX7_furtherFrom_53 : decode cX7_furtherFrom 53 = .ok (.ifCond .ne 10, 3) := by decide +kernel
theorem dX7_furtherFrom_56 : decode cX7_furtherFrom 56 = .ok (.iconst 1, 1) := by decide +kernel
theorem dX7_furtherFrom_57 : decode cX7_furtherFrom 57 = .ok (.iload 6, 2) := by decide +kernel
theorem dX7_furtherFrom_59 : decode cX7_furtherFrom 59 = .ok (.ishl, 1) := by decide +kernel
theorem dX7_furtherFrom_60 : decode cX7_furtherFrom 60 = .ok (.goto 4, 3) := by decide +kernel
theorem dX7_furtherFrom_63 : decode cX7_furtherFrom 63 = .ok (.iconst 0, 1) := by decide +kernel
theorem dX7_furtherFrom_64 : decode cX7_furtherFrom 64 = .ok (.ior, 1) := by decide +kernel
theorem dX7_furtherFrom_65 : decode cX7_furtherFrom 65 = .ok (.istore_n 3, 1) := by decide +kernel
theorem dX7_furtherFrom_66 : decode cX7_furtherFrom 66 = .ok (.iload_n 3, 1) := by decide +kernel
theorem dX7_furtherFrom_67 : decode cX7_furtherFrom 67 = .ok (.iload_n 2, 1) := by decide +kernel
theorem dX7_furtherFrom_68 : decode cX7_furtherFrom 68 = .ok (.iload 6, 2) := by decide +kernel
theorem dX7_furtherFrom_70 : decode cX7_furtherFrom 70 = .ok (.invokestatic 62, 3) := by decide +kernel
theorem dX7_furtherFrom_73 : decode cX7_furtherFrom 73 = .ok (.ifCond .eq 22, 3) := by decide +kernel
theorem dX7_furtherFrom_76 : decode cX7_furtherFrom 76 = .ok (.aload_n 0, 1) := by decide +kernel
theorem dX7_furtherFrom_77 : decode cX7_furtherFrom 77 = .ok (.iload_n 1, 1) := by decide +kernel
theorem dX7_furtherFrom_78 : decode cX7_furtherFrom 78 = .ok (.iload 4, 2) := by decide +kernel
theorem dX7_furtherFrom_80 : decode cX7_furtherFrom 80 = .ok (.iload 6, 2) := by decide +kernel
theorem dX7_furtherFrom_82 : decode cX7_furtherFrom 82 = .ok (.invokevirtual 108, 3) := by decide +kernel
theorem dX7_furtherFrom_85 : decode cX7_furtherFrom 85 = .ok (.ifCond .ne 10, 3) := by decide +kernel
theorem dX7_furtherFrom_88 : decode cX7_furtherFrom 88 = .ok (.iconst 1, 1) := by decide +kernel
theorem dX7_furtherFrom_89 : decode cX7_furtherFrom 89 = .ok (.iload 5, 2) := by decide +kernel
theorem dX7_furtherFrom_91 : decode cX7_furtherFrom 91 = .ok (.ishl, 1) := by decide +kernel
theorem dX7_furtherFrom_92 : decode cX7_furtherFrom 92 = .ok (.goto 4, 3) := by decide +kernel
theorem dX7_furtherFrom_95 : decode cX7_furtherFrom 95 = .ok (.iconst 0, 1) := by decide +kernel
theorem dX7_furtherFrom_96 : decode cX7_furtherFrom 96 = .ok (.ior, 1) := by decide +kernel
theorem dX7_furtherFrom_97 : decode cX7_furtherFrom 97 = .ok (.istore_n 3, 1) := by decide +kernel
theorem dX7_furtherFrom_98 : decode cX7_furtherFrom 98 = .ok (.iinc 4 1, 3) := by decide +kernel
theorem dX7_furtherFrom_101 : decode cX7_furtherFrom 101 = .ok (.goto (-96), 3) := by decide +kernel
theorem dX7_furtherFrom_104 : decode cX7_furtherFrom 104 = .ok (.iload_n 3, 1) := by decide +kernel
theorem dX7_furtherFrom_105 : decode cX7_furtherFrom 105 = .ok (.ireturn, 1) := by decide +kernel
theorem dX7_stepsOf_0 : decode cX7_stepsOf 0 = .ok (.iconst 1, 1) := by decide +kernel
theorem dX7_stepsOf_1 : decode cX7_stepsOf 1 = .ok (.aload_n 0, 1) := by decide +kernel
theorem dX7_stepsOf_2 : decode cX7_stepsOf 2 = .ok (.iload_n 1, 1) := by decide +kernel
theorem dX7_stepsOf_3 : decode cX7_stepsOf 3 = .ok (.iconst 3, 1) := by decide +kernel
theorem dX7_stepsOf_4 : decode cX7_stepsOf 4 = .ok (.invokevirtual 72, 3) := by decide +kernel
theorem dX7_stepsOf_7 : decode cX7_stepsOf 7 = .ok (.ishl, 1) := by decide +kernel
theorem dX7_stepsOf_8 : decode cX7_stepsOf 8 = .ok (.istore_n 3, 1) := by decide +kernel
theorem dX7_stepsOf_9 : decode cX7_stepsOf 9 = .ok (.iconst 0, 1) := by decide +kernel
theorem dX7_stepsOf_10 : decode cX7_stepsOf 10 = .ok (.istore 4, 2) := by decide +kernel
theorem dX7_stepsOf_12 : decode cX7_stepsOf 12 = .ok (.iload_n 3, 1) := by decide +kernel
theorem dX7_stepsOf_13 : decode cX7_stepsOf 13 = .ok (.iload_n 2, 1) := by decide +kernel
theorem dX7_stepsOf_14 : decode cX7_stepsOf 14 = .ok (.invokestatic 62, 3) := by decide +kernel
theorem dX7_stepsOf_17 : decode cX7_stepsOf 17 = .ok (.ifCond .ne 26, 3) := by decide +kernel
theorem dX7_stepsOf_20 : decode cX7_stepsOf 20 = .ok (.aload_n 0, 1) := by decide +kernel
theorem dX7_stepsOf_21 : decode cX7_stepsOf 21 = .ok (.iload_n 1, 1) := by decide +kernel
theorem dX7_stepsOf_22 : decode cX7_stepsOf 22 = .ok (.iload_n 3, 1) := by decide +kernel
theorem dX7_stepsOf_23 : decode cX7_stepsOf 23 = .ok (.invokevirtual 220, 3) := by decide +kernel
theorem dX7_stepsOf_26 : decode cX7_stepsOf 26 = .ok (.iload_n 3, 1) := by decide +kernel
theorem dX7_stepsOf_27 : decode cX7_stepsOf 27 = .ok (.if_icmp .eq 16, 3) := by decide +kernel
theorem dX7_stepsOf_30 : decode cX7_stepsOf 30 = .ok (.aload_n 0, 1) := by decide +kernel
theorem dX7_stepsOf_31 : decode cX7_stepsOf 31 = .ok (.iload_n 1, 1) := by decide +kernel
theorem dX7_stepsOf_32 : decode cX7_stepsOf 32 = .ok (.iload_n 3, 1) := by decide +kernel
theorem dX7_stepsOf_33 : decode cX7_stepsOf 33 = .ok (.invokevirtual 220, 3) := by decide +kernel
theorem dX7_stepsOf_36 : decode cX7_stepsOf 36 = .ok (.istore_n 3, 1) := by decide +kernel
theorem dX7_stepsOf_37 : decode cX7_stepsOf 37 = .ok (.iinc 4 1, 3) := by decide +kernel
theorem dX7_stepsOf_40 : decode cX7_stepsOf 40 = .ok (.goto (-28), 3) := by decide +kernel
theorem dX7_stepsOf_43 : decode cX7_stepsOf 43 = .ok (.iload_n 3, 1) := by decide +kernel
theorem dX7_stepsOf_44 : decode cX7_stepsOf 44 = .ok (.iload_n 2, 1) := by decide +kernel
theorem dX7_stepsOf_45 : decode cX7_stepsOf 45 = .ok (.invokestatic 62, 3) := by decide +kernel
theorem dX7_stepsOf_48 : decode cX7_stepsOf 48 = .ok (.ifCond .eq 8, 3) := by decide +kernel
theorem dX7_stepsOf_51 : decode cX7_stepsOf 51 = .ok (.iload 4, 2) := by decide +kernel
theorem dX7_stepsOf_53 : decode cX7_stepsOf 53 = .ok (.goto 5, 3) := by decide +kernel
theorem dX7_stepsOf_56 : decode cX7_stepsOf 56 = .ok (.bipush (-4), 2) := by decide +kernel
theorem dX7_stepsOf_58 : decode cX7_stepsOf 58 = .ok (.ireturn, 1) := by decide +kernel
theorem dX7_steps_0 : decode cX7_steps 0 = .ok (.iload_n 1, 1) := by decide +kernel
theorem dX7_steps_1 : decode cX7_steps 1 = .ok (.invokestatic 127, 3) := by decide +kernel
theorem dX7_steps_4 : decode cX7_steps 4 = .ok (.ifCond .eq 19, 3) := by decide +kernel
theorem dX7_steps_7 : decode cX7_steps 7 = .ok (.iload_n 2, 1) := by decide +kernel
theorem dX7_steps_8 : decode cX7_steps 8 = .ok (.invokestatic 121, 3) := by decide +kernel
theorem dX7_steps_11 : decode cX7_steps 11 = .ok (.ifCond .eq 12, 3) := by decide +kernel
theorem dX7_steps_14 : decode cX7_steps 14 = .ok (.aload_n 0, 1) := by decide +kernel
theorem dX7_steps_15 : decode cX7_steps 15 = .ok (.iload_n 1, 1) := by decide +kernel
theorem dX7_steps_16 : decode cX7_steps 16 = .ok (.iload_n 2, 1) := by decide +kernel
theorem dX7_steps_17 : decode cX7_steps 17 = .ok (.invokevirtual 223, 3) := by decide +kernel
theorem dX7_steps_20 : decode cX7_steps 20 = .ok (.goto 4, 3) := by decide +kernel
theorem dX7_steps_23 : decode cX7_steps 23 = .ok (.iconst (-1), 1) := by decide +kernel
theorem dX7_steps_24 : decode cX7_steps 24 = .ok (.ireturn, 1) := by decide +kernel
theorem dX7_sumOf_0 : decode cX7_sumOf 0 = .ok (.iconst 0, 1) := by decide +kernel
theorem dX7_sumOf_1 : decode cX7_sumOf 1 = .ok (.istore_n 2, 1) := by decide +kernel
theorem dX7_sumOf_2 : decode cX7_sumOf 2 = .ok (.iconst 0, 1) := by decide +kernel
theorem dX7_sumOf_3 : decode cX7_sumOf 3 = .ok (.istore_n 3, 1) := by decide +kernel
theorem dX7_sumOf_4 : decode cX7_sumOf 4 = .ok (.iload_n 3, 1) := by decide +kernel
theorem dX7_sumOf_5 : decode cX7_sumOf 5 = .ok (.bipush 28, 2) := by decide +kernel
theorem dX7_sumOf_7 : decode cX7_sumOf 7 = .ok (.if_icmp .ge 30, 3) := by decide +kernel
theorem dX7_sumOf_10 : decode cX7_sumOf 10 = .ok (.iload_n 2, 1) := by decide +kernel
theorem dX7_sumOf_11 : decode cX7_sumOf 11 = .ok (.aload_n 0, 1) := by decide +kernel
theorem dX7_sumOf_12 : decode cX7_sumOf 12 = .ok (.iload_n 3, 1) := by decide +kernel
theorem dX7_sumOf_13 : decode cX7_sumOf 13 = .ok (.invokevirtual 56, 3) := by decide +kernel
theorem dX7_sumOf_16 : decode cX7_sumOf 16 = .ok (.ifCond .eq 12, 3) := by decide +kernel
theorem dX7_sumOf_19 : decode cX7_sumOf 19 = .ok (.aload_n 0, 1) := by decide +kernel
theorem dX7_sumOf_20 : decode cX7_sumOf 20 = .ok (.iload_n 3, 1) := by decide +kernel
theorem dX7_sumOf_21 : decode cX7_sumOf 21 = .ok (.iload_n 1, 1) := by decide +kernel
theorem dX7_sumOf_22 : decode cX7_sumOf 22 = .ok (.invokevirtual 52, 3) := by decide +kernel
theorem dX7_sumOf_25 : decode cX7_sumOf 25 = .ok (.goto 4, 3) := by decide +kernel
theorem dX7_sumOf_28 : decode cX7_sumOf 28 = .ok (.iconst 0, 1) := by decide +kernel
theorem dX7_sumOf_29 : decode cX7_sumOf 29 = .ok (.iadd, 1) := by decide +kernel
theorem dX7_sumOf_30 : decode cX7_sumOf 30 = .ok (.istore_n 2, 1) := by decide +kernel
theorem dX7_sumOf_31 : decode cX7_sumOf 31 = .ok (.iinc 3 1, 3) := by decide +kernel
theorem dX7_sumOf_34 : decode cX7_sumOf 34 = .ok (.goto (-30), 3) := by decide +kernel
theorem dX7_sumOf_37 : decode cX7_sumOf 37 = .ok (.iload_n 2, 1) := by decide +kernel
theorem dX7_sumOf_38 : decode cX7_sumOf 38 = .ok (.ireturn, 1) := by decide +kernel
theorem dX7_smokedBy_0 : decode cX7_smokedBy 0 = .ok (.aload_n 0, 1) := by decide +kernel
theorem dX7_smokedBy_1 : decode cX7_smokedBy 1 = .ok (.iload_n 1, 1) := by decide +kernel
theorem dX7_smokedBy_2 : decode cX7_smokedBy 2 = .ok (.invokevirtual 69, 3) := by decide +kernel
theorem dX7_smokedBy_5 : decode cX7_smokedBy 5 = .ok (.istore_n 2, 1) := by decide +kernel
theorem dX7_smokedBy_6 : decode cX7_smokedBy 6 = .ok (.iconst 0, 1) := by decide +kernel
theorem dX7_smokedBy_7 : decode cX7_smokedBy 7 = .ok (.istore_n 3, 1) := by decide +kernel
theorem dX7_smokedBy_8 : decode cX7_smokedBy 8 = .ok (.iconst 0, 1) := by decide +kernel
theorem dX7_smokedBy_9 : decode cX7_smokedBy 9 = .ok (.istore 4, 2) := by decide +kernel
theorem dX7_smokedBy_11 : decode cX7_smokedBy 11 = .ok (.iload 4, 2) := by decide +kernel
theorem dX7_smokedBy_13 : decode cX7_smokedBy 13 = .ok (.bipush 28, 2) := by decide +kernel
theorem dX7_smokedBy_15 : decode cX7_smokedBy 15 = .ok (.if_icmp .ge 37, 3) := by decide +kernel
theorem dX7_smokedBy_18 : decode cX7_smokedBy 18 = .ok (.iload_n 3, 1) := by decide +kernel
theorem dX7_smokedBy_19 : decode cX7_smokedBy 19 = .ok (.aload_n 0, 1) := by decide +kernel
theorem dX7_smokedBy_20 : decode cX7_smokedBy 20 = .ok (.iload 4, 2) := by decide +kernel
theorem dX7_smokedBy_22 : decode cX7_smokedBy 22 = .ok (.invokevirtual 56, 3) := by decide +kernel
theorem dX7_smokedBy_25 : decode cX7_smokedBy 25 = .ok (.ifCond .eq 18, 3) := by decide +kernel
theorem dX7_smokedBy_28 : decode cX7_smokedBy 28 = .ok (.iload_n 2, 1) := by decide +kernel
theorem dX7_smokedBy_29 : decode cX7_smokedBy 29 = .ok (.aload_n 0, 1) := by decide +kernel
theorem dX7_smokedBy_30 : decode cX7_smokedBy 30 = .ok (.iload 4, 2) := by decide +kernel
theorem dX7_smokedBy_32 : decode cX7_smokedBy 32 = .ok (.invokevirtual 75, 3) := by decide +kernel
theorem dX7_smokedBy_35 : decode cX7_smokedBy 35 = .ok (.iand, 1) := by decide +kernel
theorem dX7_smokedBy_36 : decode cX7_smokedBy 36 = .ok (.ifCond .eq 7, 3) := by decide +kernel
theorem dX7_smokedBy_39 : decode cX7_smokedBy 39 = .ok (.iconst 1, 1) := by decide +kernel
theorem dX7_smokedBy_40 : decode cX7_smokedBy 40 = .ok (.goto 4, 3) := by decide +kernel
theorem dX7_smokedBy_43 : decode cX7_smokedBy 43 = .ok (.iconst 0, 1) := by decide +kernel
theorem dX7_smokedBy_44 : decode cX7_smokedBy 44 = .ok (.iadd, 1) := by decide +kernel
theorem dX7_smokedBy_45 : decode cX7_smokedBy 45 = .ok (.istore_n 3, 1) := by decide +kernel
theorem dX7_smokedBy_46 : decode cX7_smokedBy 46 = .ok (.iinc 4 1, 3) := by decide +kernel
theorem dX7_smokedBy_49 : decode cX7_smokedBy 49 = .ok (.goto (-38), 3) := by decide +kernel
theorem dX7_smokedBy_52 : decode cX7_smokedBy 52 = .ok (.iload_n 3, 1) := by decide +kernel
theorem dX7_smokedBy_53 : decode cX7_smokedBy 53 = .ok (.ireturn, 1) := by decide +kernel
theorem dX7_count_0 : decode cX7_count 0 = .ok (.iload_n 1, 1) := by decide +kernel
theorem dX7_count_1 : decode cX7_count 1 = .ok (.tableswitch 197 0 17 #[87, 87, 94, 105, 113, 124, 129, 134, 134, 150, 161, 161, 161, 161, 173, 180, 187, 192], 87) := by decide +kernel
theorem dX7_count_88 : decode cX7_count 88 = .ok (.aload_n 0, 1) := by decide +kernel
theorem dX7_count_89 : decode cX7_count 89 = .ok (.getfield 7, 3) := by decide +kernel
theorem dX7_count_92 : decode cX7_count 92 = .ok (.iload_n 1, 1) := by decide +kernel
theorem dX7_count_93 : decode cX7_count 93 = .ok (.iaload, 1) := by decide +kernel
theorem dX7_count_94 : decode cX7_count 94 = .ok (.ireturn, 1) := by decide +kernel
theorem dX7_count_95 : decode cX7_count 95 = .ok (.aload_n 0, 1) := by decide +kernel
theorem dX7_count_96 : decode cX7_count 96 = .ok (.getfield 7, 3) := by decide +kernel
theorem dX7_count_99 : decode cX7_count 99 = .ok (.bipush 8, 2) := by decide +kernel
theorem dX7_count_101 : decode cX7_count 101 = .ok (.iaload, 1) := by decide +kernel
theorem dX7_count_102 : decode cX7_count 102 = .ok (.invokestatic 112, 3) := by decide +kernel
theorem dX7_count_105 : decode cX7_count 105 = .ok (.ireturn, 1) := by decide +kernel
theorem dX7_count_106 : decode cX7_count 106 = .ok (.aload_n 0, 1) := by decide +kernel
theorem dX7_count_107 : decode cX7_count 107 = .ok (.invokevirtual 78, 3) := by decide +kernel
theorem dX7_count_110 : decode cX7_count 110 = .ok (.invokestatic 112, 3) := by decide +kernel
theorem dX7_count_113 : decode cX7_count 113 = .ok (.ireturn, 1) := by decide +kernel
theorem dX7_count_114 : decode cX7_count 114 = .ok (.aload_n 0, 1) := by decide +kernel
theorem dX7_count_115 : decode cX7_count 115 = .ok (.getfield 7, 3) := by decide +kernel
theorem dX7_count_118 : decode cX7_count 118 = .ok (.bipush 9, 2) := by decide +kernel
theorem dX7_count_120 : decode cX7_count 120 = .ok (.iaload, 1) := by decide +kernel
theorem dX7_count_121 : decode cX7_count 121 = .ok (.invokestatic 112, 3) := by decide +kernel
theorem dX7_count_124 : decode cX7_count 124 = .ok (.ireturn, 1) := by decide +kernel
theorem dX7_count_125 : decode cX7_count 125 = .ok (.aload_n 0, 1) := by decide +kernel
theorem dX7_count_126 : decode cX7_count 126 = .ok (.invokevirtual 105, 3) := by decide +kernel
theorem dX7_count_129 : decode cX7_count 129 = .ok (.ireturn, 1) := by decide +kernel
theorem dX7_count_130 : decode cX7_count 130 = .ok (.aload_n 0, 1) := by decide +kernel
theorem dX7_count_131 : decode cX7_count 131 = .ok (.invokevirtual 115, 3) := by decide +kernel
theorem dX7_count_134 : decode cX7_count 134 = .ok (.ireturn, 1) := by decide +kernel
theorem dX7_count_135 : decode cX7_count 135 = .ok (.aload_n 0, 1) := by decide +kernel
theorem dX7_count_136 : decode cX7_count 136 = .ok (.iload_n 1, 1) := by decide +kernel
theorem dX7_count_137 : decode cX7_count 137 = .ok (.bipush 7, 2) := by decide +kernel
theorem dX7_count_139 : decode cX7_count 139 = .ok (.if_icmp .ne 7, 3) := by decide +kernel
theorem dX7_count_142 : decode cX7_count 142 = .ok (.iconst 2, 1) := by decide +kernel
theorem dX7_count_143 : decode cX7_count 143 = .ok (.goto 4, 3) := by decide +kernel
theorem dX7_count_146 : decode cX7_count 146 = .ok (.iconst 3, 1) := by decide +kernel
theorem dX7_count_147 : decode cX7_count 147 = .ok (.invokevirtual 226, 3) := by decide +kernel
theorem dX7_count_150 : decode cX7_count 150 = .ok (.ireturn, 1) := by decide +kernel
theorem dX7_count_151 : decode cX7_count 151 = .ok (.aload_n 0, 1) := by decide +kernel
theorem dX7_count_152 : decode cX7_count 152 = .ok (.aload_n 0, 1) := by decide +kernel
theorem dX7_count_153 : decode cX7_count 153 = .ok (.getfield 7, 3) := by decide +kernel
theorem dX7_count_156 : decode cX7_count 156 = .ok (.iconst 1, 1) := by decide +kernel
theorem dX7_count_157 : decode cX7_count 157 = .ok (.iaload, 1) := by decide +kernel
theorem dX7_count_158 : decode cX7_count 158 = .ok (.invokevirtual 229, 3) := by decide +kernel
theorem dX7_count_161 : decode cX7_count 161 = .ok (.ireturn, 1) := by decide +kernel
theorem dX7_count_162 : decode cX7_count 162 = .ok (.aload_n 0, 1) := by decide +kernel
theorem dX7_count_163 : decode cX7_count 163 = .ok (.getfield 7, 3) := by decide +kernel
theorem dX7_count_166 : decode cX7_count 166 = .ok (.iconst 4, 1) := by decide +kernel
theorem dX7_count_167 : decode cX7_count 167 = .ok (.iload_n 1, 1) := by decide +kernel
theorem dX7_count_168 : decode cX7_count 168 = .ok (.iadd, 1) := by decide +kernel
theorem dX7_count_169 : decode cX7_count 169 = .ok (.bipush 10, 2) := by decide +kernel
theorem dX7_count_171 : decode cX7_count 171 = .ok (.isub, 1) := by decide +kernel
theorem dX7_count_172 : decode cX7_count 172 = .ok (.iaload, 1) := by decide +kernel
theorem dX7_count_173 : decode cX7_count 173 = .ok (.ireturn, 1) := by decide +kernel
theorem dX7_count_174 : decode cX7_count 174 = .ok (.aload_n 0, 1) := by decide +kernel
theorem dX7_count_175 : decode cX7_count 175 = .ok (.getfield 7, 3) := by decide +kernel
theorem dX7_count_178 : decode cX7_count 178 = .ok (.iconst 2, 1) := by decide +kernel
theorem dX7_count_179 : decode cX7_count 179 = .ok (.iaload, 1) := by decide +kernel
theorem dX7_count_180 : decode cX7_count 180 = .ok (.ireturn, 1) := by decide +kernel
theorem dX7_count_181 : decode cX7_count 181 = .ok (.aload_n 0, 1) := by decide +kernel
theorem dX7_count_182 : decode cX7_count 182 = .ok (.getfield 7, 3) := by decide +kernel
theorem dX7_count_185 : decode cX7_count 185 = .ok (.iconst 3, 1) := by decide +kernel
theorem dX7_count_186 : decode cX7_count 186 = .ok (.iaload, 1) := by decide +kernel
theorem dX7_count_187 : decode cX7_count 187 = .ok (.ireturn, 1) := by decide +kernel
theorem dX7_count_188 : decode cX7_count 188 = .ok (.aload_n 0, 1) := by decide +kernel
theorem dX7_count_189 : decode cX7_count 189 = .ok (.getfield 145, 3) := by decide +kernel
theorem dX7_count_192 : decode cX7_count 192 = .ok (.ireturn, 1) := by decide +kernel
theorem dX7_count_193 : decode cX7_count 193 = .ok (.aload_n 0, 1) := by decide +kernel
theorem dX7_count_194 : decode cX7_count 194 = .ok (.getfield 33, 3) := by decide +kernel
theorem dX7_count_197 : decode cX7_count 197 = .ok (.ireturn, 1) := by decide +kernel
theorem dX7_count_198 : decode cX7_count 198 = .ok (.iconst (-1), 1) := by decide +kernel
theorem dX7_count_199 : decode cX7_count 199 = .ok (.ireturn, 1) := by decide +kernel
theorem dX7_cleanness_0 : decode cX7_cleanness 0 = .ok (.aload_n 0, 1) := by decide +kernel
theorem dX7_cleanness_1 : decode cX7_cleanness 1 = .ok (.invokevirtual 105, 3) := by decide +kernel
theorem dX7_cleanness_4 : decode cX7_cleanness 4 = .ok (.ifCond .ne 7, 3) := by decide +kernel
theorem dX7_cleanness_7 : decode cX7_cleanness 7 = .ok (.dconst 1, 1) := by decide +kernel
theorem dX7_cleanness_8 : decode cX7_cleanness 8 = .ok (.goto 14, 3) := by decide +kernel
theorem dX7_cleanness_11 : decode cX7_cleanness 11 = .ok (.aload_n 0, 1) := by decide +kernel
theorem dX7_cleanness_12 : decode cX7_cleanness 12 = .ok (.invokevirtual 115, 3) := by decide +kernel
theorem dX7_cleanness_15 : decode cX7_cleanness 15 = .ok (.i2d, 1) := by decide +kernel
theorem dX7_cleanness_16 : decode cX7_cleanness 16 = .ok (.aload_n 0, 1) := by decide +kernel
theorem dX7_cleanness_17 : decode cX7_cleanness 17 = .ok (.invokevirtual 105, 3) := by decide +kernel
theorem dX7_cleanness_20 : decode cX7_cleanness 20 = .ok (.i2d, 1) := by decide +kernel
theorem dX7_cleanness_21 : decode cX7_cleanness 21 = .ok (.ddiv, 1) := by decide +kernel
theorem dX7_cleanness_22 : decode cX7_cleanness 22 = .ok (.dreturn, 1) := by decide +kernel
theorem dX7_ifWind_0 : decode cX7_ifWind 0 = .ok (.iload_n 1, 1) := by decide +kernel
theorem dX7_ifWind_1 : decode cX7_ifWind 1 = .ok (.iconst 0, 1) := by decide +kernel
theorem dX7_ifWind_2 : decode cX7_ifWind 2 = .ok (.iconst 3, 1) := by decide +kernel
theorem dX7_ifWind_3 : decode cX7_ifWind 3 = .ok (.invokestatic 41, 3) := by decide +kernel
theorem dX7_ifWind_6 : decode cX7_ifWind 6 = .ok (.ifCond .eq 11, 3) := by decide +kernel
theorem dX7_ifWind_9 : decode cX7_ifWind 9 = .ok (.aload_n 0, 1) := by decide +kernel
theorem dX7_ifWind_10 : decode cX7_ifWind 10 = .ok (.iload_n 1, 1) := by decide +kernel
theorem dX7_ifWind_11 : decode cX7_ifWind 11 = .ok (.invokevirtual 229, 3) := by decide +kernel
theorem dX7_ifWind_14 : decode cX7_ifWind 14 = .ok (.goto 4, 3) := by decide +kernel
theorem dX7_ifWind_17 : decode cX7_ifWind 17 = .ok (.iconst (-1), 1) := by decide +kernel
theorem dX7_ifWind_18 : decode cX7_ifWind 18 = .ok (.ireturn, 1) := by decide +kernel
theorem dX7_bestWind_0 : decode cX7_bestWind 0 = .ok (.iconst 0, 1) := by decide +kernel
theorem dX7_bestWind_1 : decode cX7_bestWind 1 = .ok (.istore_n 1, 1) := by decide +kernel
theorem dX7_bestWind_2 : decode cX7_bestWind 2 = .ok (.iconst 1, 1) := by decide +kernel
theorem dX7_bestWind_3 : decode cX7_bestWind 3 = .ok (.istore_n 2, 1) := by decide +kernel
theorem dX7_bestWind_4 : decode cX7_bestWind 4 = .ok (.iload_n 2, 1) := by decide +kernel
theorem dX7_bestWind_5 : decode cX7_bestWind 5 = .ok (.iconst 4, 1) := by decide +kernel
theorem dX7_bestWind_6 : decode cX7_bestWind 6 = .ok (.if_icmp .ge 28, 3) := by decide +kernel
theorem dX7_bestWind_9 : decode cX7_bestWind 9 = .ok (.aload_n 0, 1) := by decide +kernel
theorem dX7_bestWind_10 : decode cX7_bestWind 10 = .ok (.iload_n 2, 1) := by decide +kernel
theorem dX7_bestWind_11 : decode cX7_bestWind 11 = .ok (.invokevirtual 229, 3) := by decide +kernel
theorem dX7_bestWind_14 : decode cX7_bestWind 14 = .ok (.aload_n 0, 1) := by decide +kernel
theorem dX7_bestWind_15 : decode cX7_bestWind 15 = .ok (.iload_n 1, 1) := by decide +kernel
theorem dX7_bestWind_16 : decode cX7_bestWind 16 = .ok (.invokevirtual 229, 3) := by decide +kernel
theorem dX7_bestWind_19 : decode cX7_bestWind 19 = .ok (.if_icmp .ge 7, 3) := by decide +kernel
theorem dX7_bestWind_22 : decode cX7_bestWind 22 = .ok (.iload_n 2, 1) := by decide +kernel
theorem dX7_bestWind_23 : decode cX7_bestWind 23 = .ok (.goto 4, 3) := by decide +kernel
theorem dX7_bestWind_26 : decode cX7_bestWind 26 = .ok (.iload_n 1, 1) := by decide +kernel
theorem dX7_bestWind_27 : decode cX7_bestWind 27 = .ok (.istore_n 1, 1) := by decide +kernel
theorem dX7_bestWind_28 : decode cX7_bestWind 28 = .ok (.iinc 2 1, 3) := by decide +kernel
theorem dX7_bestWind_31 : decode cX7_bestWind 31 = .ok (.goto (-27), 3) := by decide +kernel
theorem dX7_bestWind_34 : decode cX7_bestWind 34 = .ok (.iload_n 1, 1) := by decide +kernel
theorem dX7_bestWind_35 : decode cX7_bestWind 35 = .ok (.ireturn, 1) := by decide +kernel
theorem dX7_ifDays_0 : decode cX7_ifDays 0 = .ok (.iload_n 1, 1) := by decide +kernel
theorem dX7_ifDays_1 : decode cX7_ifDays 1 = .ok (.iconst 1, 1) := by decide +kernel
theorem dX7_ifDays_2 : decode cX7_ifDays 2 = .ok (.bipush 30, 2) := by decide +kernel
theorem dX7_ifDays_4 : decode cX7_ifDays 4 = .ok (.invokestatic 41, 3) := by decide +kernel
theorem dX7_ifDays_7 : decode cX7_ifDays 7 = .ok (.ifCond .eq 12, 3) := by decide +kernel
theorem dX7_ifDays_10 : decode cX7_ifDays 10 = .ok (.iload_n 2, 1) := by decide +kernel
theorem dX7_ifDays_11 : decode cX7_ifDays 11 = .ok (.iconst 0, 1) := by decide +kernel
theorem dX7_ifDays_12 : decode cX7_ifDays 12 = .ok (.iconst 3, 1) := by decide +kernel
theorem dX7_ifDays_13 : decode cX7_ifDays 13 = .ok (.invokestatic 41, 3) := by decide +kernel
theorem dX7_ifDays_16 : decode cX7_ifDays 16 = .ok (.ifCond .ne 5, 3) := by decide +kernel
theorem dX7_ifDays_19 : decode cX7_ifDays 19 = .ok (.iconst (-1), 1) := by decide +kernel
theorem dX7_ifDays_20 : decode cX7_ifDays 20 = .ok (.ireturn, 1) := by decide +kernel
theorem dX7_ifDays_21 : decode cX7_ifDays 21 = .ok (.aload_n 0, 1) := by decide +kernel
theorem dX7_ifDays_22 : decode cX7_ifDays 22 = .ok (.getfield 7, 3) := by decide +kernel
theorem dX7_ifDays_25 : decode cX7_ifDays 25 = .ok (.iconst 0, 1) := by decide +kernel
theorem dX7_ifDays_26 : decode cX7_ifDays 26 = .ok (.aload_n 0, 1) := by decide +kernel
theorem dX7_ifDays_27 : decode cX7_ifDays 27 = .ok (.getfield 13, 3) := by decide +kernel
theorem dX7_ifDays_30 : decode cX7_ifDays 30 = .ok (.iconst 0, 1) := by decide +kernel
theorem dX7_ifDays_31 : decode cX7_ifDays 31 = .ok (.invokestatic 37, 3) := by decide +kernel
theorem dX7_ifDays_34 : decode cX7_ifDays 34 = .ok (.iconst 0, 1) := by decide +kernel
theorem dX7_ifDays_35 : decode cX7_ifDays 35 = .ok (.istore_n 3, 1) := by decide +kernel
theorem dX7_ifDays_36 : decode cX7_ifDays 36 = .ok (.iconst 0, 1) := by decide +kernel
theorem dX7_ifDays_37 : decode cX7_ifDays 37 = .ok (.istore 4, 2) := by decide +kernel
theorem dX7_ifDays_39 : decode cX7_ifDays 39 = .ok (.iload 4, 2) := by decide +kernel
theorem dX7_ifDays_41 : decode cX7_ifDays 41 = .ok (.iload_n 1, 1) := by decide +kernel
theorem dX7_ifDays_42 : decode cX7_ifDays 42 = .ok (.if_icmp .ge 14, 3) := by decide +kernel
theorem dX7_ifDays_45 : decode cX7_ifDays 45 = .ok (.aload_n 0, 1) := by decide +kernel
theorem dX7_ifDays_46 : decode cX7_ifDays 46 = .ok (.invokevirtual 142, 3) := by decide +kernel
theorem dX7_ifDays_49 : decode cX7_ifDays 49 = .ok (.istore_n 3, 1) := by decide +kernel
theorem dX7_ifDays_50 : decode cX7_ifDays 50 = .ok (.iinc 4 1, 3) := by decide +kernel
theorem dX7_ifDays_53 : decode cX7_ifDays 53 = .ok (.goto (-14), 3) := by decide +kernel
theorem dX7_ifDays_56 : decode cX7_ifDays 56 = .ok (.iload_n 2, 1) := by decide +kernel
theorem dX7_ifDays_57 : decode cX7_ifDays 57 = .ok (.ifCond .ne 7, 3) := by decide +kernel
theorem dX7_ifDays_60 : decode cX7_ifDays 60 = .ok (.iload_n 3, 1) := by decide +kernel
theorem dX7_ifDays_61 : decode cX7_ifDays 61 = .ok (.goto 35, 3) := by decide +kernel
theorem dX7_ifDays_64 : decode cX7_ifDays 64 = .ok (.iload_n 2, 1) := by decide +kernel
theorem dX7_ifDays_65 : decode cX7_ifDays 65 = .ok (.iconst 1, 1) := by decide +kernel
theorem dX7_ifDays_66 : decode cX7_ifDays 66 = .ok (.if_icmp .ne 11, 3) := by decide +kernel
theorem dX7_ifDays_69 : decode cX7_ifDays 69 = .ok (.aload_n 0, 1) := by decide +kernel
theorem dX7_ifDays_70 : decode cX7_ifDays 70 = .ok (.iconst 2, 1) := by decide +kernel
theorem dX7_ifDays_71 : decode cX7_ifDays 71 = .ok (.invokevirtual 226, 3) := by decide +kernel
theorem dX7_ifDays_74 : decode cX7_ifDays 74 = .ok (.goto 22, 3) := by decide +kernel
theorem dX7_ifDays_77 : decode cX7_ifDays 77 = .ok (.iload_n 2, 1) := by decide +kernel
theorem dX7_ifDays_78 : decode cX7_ifDays 78 = .ok (.iconst 2, 1) := by decide +kernel
theorem dX7_ifDays_79 : decode cX7_ifDays 79 = .ok (.if_icmp .ne 11, 3) := by decide +kernel
theorem dX7_ifDays_82 : decode cX7_ifDays 82 = .ok (.aload_n 0, 1) := by decide +kernel
theorem dX7_ifDays_83 : decode cX7_ifDays 83 = .ok (.iconst 3, 1) := by decide +kernel
theorem dX7_ifDays_84 : decode cX7_ifDays 84 = .ok (.invokevirtual 226, 3) := by decide +kernel
theorem dX7_ifDays_87 : decode cX7_ifDays 87 = .ok (.goto 9, 3) := by decide +kernel
theorem dX7_ifDays_90 : decode cX7_ifDays 90 = .ok (.aload_n 0, 1) := by decide +kernel
theorem dX7_ifDays_91 : decode cX7_ifDays 91 = .ok (.getfield 7, 3) := by decide +kernel
theorem dX7_ifDays_94 : decode cX7_ifDays 94 = .ok (.iconst 1, 1) := by decide +kernel
theorem dX7_ifDays_95 : decode cX7_ifDays 95 = .ok (.iaload, 1) := by decide +kernel
theorem dX7_ifDays_96 : decode cX7_ifDays 96 = .ok (.istore 4, 2) := by decide +kernel
theorem dX7_ifDays_98 : decode cX7_ifDays 98 = .ok (.aload_n 0, 1) := by decide +kernel
theorem dX7_ifDays_99 : decode cX7_ifDays 99 = .ok (.getfield 13, 3) := by decide +kernel
theorem dX7_ifDays_102 : decode cX7_ifDays 102 = .ok (.iconst 0, 1) := by decide +kernel
theorem dX7_ifDays_103 : decode cX7_ifDays 103 = .ok (.aload_n 0, 1) := by decide +kernel
theorem dX7_ifDays_104 : decode cX7_ifDays 104 = .ok (.getfield 7, 3) := by decide +kernel
theorem dX7_ifDays_107 : decode cX7_ifDays 107 = .ok (.iconst 0, 1) := by decide +kernel
theorem dX7_ifDays_108 : decode cX7_ifDays 108 = .ok (.invokestatic 37, 3) := by decide +kernel
theorem dX7_ifDays_111 : decode cX7_ifDays 111 = .ok (.iload 4, 2) := by decide +kernel
theorem dX7_ifDays_113 : decode cX7_ifDays 113 = .ok (.ireturn, 1) := by decide +kernel
theorem dX7_windsOver_0 : decode cX7_windsOver 0 = .ok (.iconst 0, 1) := by decide +kernel
theorem dX7_windsOver_1 : decode cX7_windsOver 1 = .ok (.istore_n 2, 1) := by decide +kernel
theorem dX7_windsOver_2 : decode cX7_windsOver 2 = .ok (.iconst 0, 1) := by decide +kernel
theorem dX7_windsOver_3 : decode cX7_windsOver 3 = .ok (.istore_n 3, 1) := by decide +kernel
theorem dX7_windsOver_4 : decode cX7_windsOver 4 = .ok (.iload_n 3, 1) := by decide +kernel
theorem dX7_windsOver_5 : decode cX7_windsOver 5 = .ok (.iconst 4, 1) := by decide +kernel
theorem dX7_windsOver_6 : decode cX7_windsOver 6 = .ok (.if_icmp .ge 31, 3) := by decide +kernel
theorem dX7_windsOver_9 : decode cX7_windsOver 9 = .ok (.iload_n 2, 1) := by decide +kernel
theorem dX7_windsOver_10 : decode cX7_windsOver 10 = .ok (.aload_n 0, 1) := by decide +kernel
theorem dX7_windsOver_11 : decode cX7_windsOver 11 = .ok (.iload_n 3, 1) := by decide +kernel
theorem dX7_windsOver_12 : decode cX7_windsOver 12 = .ok (.invokevirtual 69, 3) := by decide +kernel
theorem dX7_windsOver_15 : decode cX7_windsOver 15 = .ok (.aload_n 0, 1) := by decide +kernel
theorem dX7_windsOver_16 : decode cX7_windsOver 16 = .ok (.iload_n 1, 1) := by decide +kernel
theorem dX7_windsOver_17 : decode cX7_windsOver 17 = .ok (.invokevirtual 75, 3) := by decide +kernel
theorem dX7_windsOver_20 : decode cX7_windsOver 20 = .ok (.iand, 1) := by decide +kernel
theorem dX7_windsOver_21 : decode cX7_windsOver 21 = .ok (.ifCond .eq 7, 3) := by decide +kernel
theorem dX7_windsOver_24 : decode cX7_windsOver 24 = .ok (.iconst 1, 1) := by decide +kernel
theorem dX7_windsOver_25 : decode cX7_windsOver 25 = .ok (.goto 4, 3) := by decide +kernel
theorem dX7_windsOver_28 : decode cX7_windsOver 28 = .ok (.iconst 0, 1) := by decide +kernel
theorem dX7_windsOver_29 : decode cX7_windsOver 29 = .ok (.iadd, 1) := by decide +kernel
theorem dX7_windsOver_30 : decode cX7_windsOver 30 = .ok (.istore_n 2, 1) := by decide +kernel
theorem dX7_windsOver_31 : decode cX7_windsOver 31 = .ok (.iinc 3 1, 3) := by decide +kernel
theorem dX7_windsOver_34 : decode cX7_windsOver 34 = .ok (.goto (-30), 3) := by decide +kernel
theorem dX7_windsOver_37 : decode cX7_windsOver 37 = .ok (.iload_n 2, 1) := by decide +kernel
theorem dX7_windsOver_38 : decode cX7_windsOver 38 = .ok (.ireturn, 1) := by decide +kernel
theorem dX7_bestPlace_0 : decode cX7_bestPlace 0 = .ok (.iload_n 1, 1) := by decide +kernel
theorem dX7_bestPlace_1 : decode cX7_bestPlace 1 = .ok (.invokestatic 127, 3) := by decide +kernel
theorem dX7_bestPlace_4 : decode cX7_bestPlace 4 = .ok (.ifCond .ne 5, 3) := by decide +kernel
theorem dX7_bestPlace_7 : decode cX7_bestPlace 7 = .ok (.iconst (-1), 1) := by decide +kernel
theorem dX7_bestPlace_8 : decode cX7_bestPlace 8 = .ok (.ireturn, 1) := by decide +kernel
theorem dX7_bestPlace_9 : decode cX7_bestPlace 9 = .ok (.bipush (-4), 2) := by decide +kernel
theorem dX7_bestPlace_11 : decode cX7_bestPlace 11 = .ok (.istore_n 2, 1) := by decide +kernel
theorem dX7_bestPlace_12 : decode cX7_bestPlace 12 = .ok (.iconst 5, 1) := by decide +kernel
theorem dX7_bestPlace_13 : decode cX7_bestPlace 13 = .ok (.istore_n 3, 1) := by decide +kernel
theorem dX7_bestPlace_14 : decode cX7_bestPlace 14 = .ok (.iconst 0, 1) := by decide +kernel
theorem dX7_bestPlace_15 : decode cX7_bestPlace 15 = .ok (.istore 4, 2) := by decide +kernel
theorem dX7_bestPlace_17 : decode cX7_bestPlace 17 = .ok (.iload 4, 2) := by decide +kernel
theorem dX7_bestPlace_19 : decode cX7_bestPlace 19 = .ok (.bipush 28, 2) := by decide +kernel
theorem dX7_bestPlace_21 : decode cX7_bestPlace 21 = .ok (.if_icmp .ge 65, 3) := by decide +kernel
theorem dX7_bestPlace_24 : decode cX7_bestPlace 24 = .ok (.iload 4, 2) := by decide +kernel
theorem dX7_bestPlace_26 : decode cX7_bestPlace 26 = .ok (.invokestatic 29, 3) := by decide +kernel
theorem dX7_bestPlace_29 : decode cX7_bestPlace 29 = .ok (.ifCond .eq 22, 3) := by decide +kernel
theorem dX7_bestPlace_32 : decode cX7_bestPlace 32 = .ok (.aload_n 0, 1) := by decide +kernel
theorem dX7_bestPlace_33 : decode cX7_bestPlace 33 = .ok (.iload_n 1, 1) := by decide +kernel
theorem dX7_bestPlace_34 : decode cX7_bestPlace 34 = .ok (.iload 4, 2) := by decide +kernel
theorem dX7_bestPlace_36 : decode cX7_bestPlace 36 = .ok (.invokevirtual 95, 3) := by decide +kernel
theorem dX7_bestPlace_39 : decode cX7_bestPlace 39 = .ok (.ifCond .ne 12, 3) := by decide +kernel
theorem dX7_bestPlace_42 : decode cX7_bestPlace 42 = .ok (.aload_n 0, 1) := by decide +kernel
theorem dX7_bestPlace_43 : decode cX7_bestPlace 43 = .ok (.iload 4, 2) := by decide +kernel
theorem dX7_bestPlace_45 : decode cX7_bestPlace 45 = .ok (.invokevirtual 232, 3) := by decide +kernel
theorem dX7_bestPlace_48 : decode cX7_bestPlace 48 = .ok (.goto 4, 3) := by decide +kernel
theorem dX7_bestPlace_51 : decode cX7_bestPlace 51 = .ok (.iconst 5, 1) := by decide +kernel
theorem dX7_bestPlace_52 : decode cX7_bestPlace 52 = .ok (.istore 5, 2) := by decide +kernel
theorem dX7_bestPlace_54 : decode cX7_bestPlace 54 = .ok (.iload 5, 2) := by decide +kernel
theorem dX7_bestPlace_56 : decode cX7_bestPlace 56 = .ok (.iload_n 3, 1) := by decide +kernel
theorem dX7_bestPlace_57 : decode cX7_bestPlace 57 = .ok (.if_icmp .ge 8, 3) := by decide +kernel
theorem dX7_bestPlace_60 : decode cX7_bestPlace 60 = .ok (.iload 4, 2) := by decide +kernel
theorem dX7_bestPlace_62 : decode cX7_bestPlace 62 = .ok (.goto 4, 3) := by decide +kernel
theorem dX7_bestPlace_65 : decode cX7_bestPlace 65 = .ok (.iload_n 2, 1) := by decide +kernel
theorem dX7_bestPlace_66 : decode cX7_bestPlace 66 = .ok (.istore_n 2, 1) := by decide +kernel
theorem dX7_bestPlace_67 : decode cX7_bestPlace 67 = .ok (.iload 5, 2) := by decide +kernel
theorem dX7_bestPlace_69 : decode cX7_bestPlace 69 = .ok (.iload_n 3, 1) := by decide +kernel
theorem dX7_bestPlace_70 : decode cX7_bestPlace 70 = .ok (.if_icmp .ge 8, 3) := by decide +kernel
theorem dX7_bestPlace_73 : decode cX7_bestPlace 73 = .ok (.iload 5, 2) := by decide +kernel
theorem dX7_bestPlace_75 : decode cX7_bestPlace 75 = .ok (.goto 4, 3) := by decide +kernel
theorem dX7_bestPlace_78 : decode cX7_bestPlace 78 = .ok (.iload_n 3, 1) := by decide +kernel
theorem dX7_bestPlace_79 : decode cX7_bestPlace 79 = .ok (.istore_n 3, 1) := by decide +kernel
theorem dX7_bestPlace_80 : decode cX7_bestPlace 80 = .ok (.iinc 4 1, 3) := by decide +kernel
theorem dX7_bestPlace_83 : decode cX7_bestPlace 83 = .ok (.goto (-66), 3) := by decide +kernel
theorem dX7_bestPlace_86 : decode cX7_bestPlace 86 = .ok (.iload_n 2, 1) := by decide +kernel
theorem dX7_bestPlace_87 : decode cX7_bestPlace 87 = .ok (.ireturn, 1) := by decide +kernel
theorem dX7_undo_0 : decode cX7_undo 0 = .ok (.aload_n 0, 1) := by decide +kernel
theorem dX7_undo_1 : decode cX7_undo 1 = .ok (.getfield 33, 3) := by decide +kernel
theorem dX7_undo_4 : decode cX7_undo 4 = .ok (.ifCond .ne 6, 3) := by decide +kernel
theorem dX7_undo_7 : decode cX7_undo 7 = .ok (.bipush (-2), 2) := by decide +kernel
theorem dX7_undo_9 : decode cX7_undo 9 = .ok (.ireturn, 1) := by decide +kernel
theorem dX7_undo_10 : decode cX7_undo 10 = .ok (.aload_n 0, 1) := by decide +kernel
theorem dX7_undo_11 : decode cX7_undo 11 = .ok (.dup, 1) := by decide +kernel
theorem dX7_undo_12 : decode cX7_undo 12 = .ok (.getfield 33, 3) := by decide +kernel
theorem dX7_undo_15 : decode cX7_undo 15 = .ok (.iconst 1, 1) := by decide +kernel
theorem dX7_undo_16 : decode cX7_undo 16 = .ok (.isub, 1) := by decide +kernel
theorem dX7_undo_17 : decode cX7_undo 17 = .ok (.putfield 33, 3) := by decide +kernel
theorem dX7_undo_20 : decode cX7_undo 20 = .ok (.aload_n 0, 1) := by decide +kernel
theorem dX7_undo_21 : decode cX7_undo 21 = .ok (.getfield 16, 3) := by decide +kernel
theorem dX7_undo_24 : decode cX7_undo 24 = .ok (.sipush 142, 3) := by decide +kernel
theorem dX7_undo_27 : decode cX7_undo 27 = .ok (.aload_n 0, 1) := by decide +kernel
theorem dX7_undo_28 : decode cX7_undo 28 = .ok (.getfield 33, 3) := by decide +kernel
theorem dX7_undo_31 : decode cX7_undo 31 = .ok (.imul, 1) := by decide +kernel
theorem dX7_undo_32 : decode cX7_undo 32 = .ok (.aload_n 0, 1) := by decide +kernel
theorem dX7_undo_33 : decode cX7_undo 33 = .ok (.getfield 7, 3) := by decide +kernel
theorem dX7_undo_36 : decode cX7_undo 36 = .ok (.iconst 0, 1) := by decide +kernel
theorem dX7_undo_37 : decode cX7_undo 37 = .ok (.invokestatic 37, 3) := by decide +kernel
theorem dX7_undo_40 : decode cX7_undo 40 = .ok (.aload_n 0, 1) := by decide +kernel
theorem dX7_undo_41 : decode cX7_undo 41 = .ok (.getfield 33, 3) := by decide +kernel
theorem dX7_undo_44 : decode cX7_undo 44 = .ok (.ireturn, 1) := by decide +kernel
theorem dX7_save_0 : decode cX7_save 0 = .ok (.aload_n 0, 1) := by decide +kernel
theorem dX7_save_1 : decode cX7_save 1 = .ok (.getfield 7, 3) := by decide +kernel
theorem dX7_save_4 : decode cX7_save 4 = .ok (.iconst 0, 1) := by decide +kernel
theorem dX7_save_5 : decode cX7_save 5 = .ok (.aload_n 0, 1) := by decide +kernel
theorem dX7_save_6 : decode cX7_save 6 = .ok (.getfield 19, 3) := by decide +kernel
theorem dX7_save_9 : decode cX7_save 9 = .ok (.iconst 0, 1) := by decide +kernel
theorem dX7_save_10 : decode cX7_save 10 = .ok (.invokestatic 37, 3) := by decide +kernel
theorem dX7_save_13 : decode cX7_save 13 = .ok (.aload_n 0, 1) := by decide +kernel
theorem dX7_save_14 : decode cX7_save 14 = .ok (.iconst 1, 1) := by decide +kernel
theorem dX7_save_15 : decode cX7_save 15 = .ok (.putfield 235, 3) := by decide +kernel
theorem dX7_save_18 : decode cX7_save 18 = .ok (.aload_n 0, 1) := by decide +kernel
theorem dX7_save_19 : decode cX7_save 19 = .ok (.invokevirtual 105, 3) := by decide +kernel
theorem dX7_save_22 : decode cX7_save 22 = .ok (.ireturn, 1) := by decide +kernel
theorem dX7_restore_0 : decode cX7_restore 0 = .ok (.aload_n 0, 1) := by decide +kernel
theorem dX7_restore_1 : decode cX7_restore 1 = .ok (.getfield 235, 3) := by decide +kernel
theorem dX7_restore_4 : decode cX7_restore 4 = .ok (.ifCond .ne 6, 3) := by decide +kernel
theorem dX7_restore_7 : decode cX7_restore 7 = .ok (.bipush (-2), 2) := by decide +kernel
theorem dX7_restore_9 : decode cX7_restore 9 = .ok (.ireturn, 1) := by decide +kernel
theorem dX7_restore_10 : decode cX7_restore 10 = .ok (.aload_n 0, 1) := by decide +kernel
theorem dX7_restore_11 : decode cX7_restore 11 = .ok (.invokevirtual 118, 3) := by decide +kernel
theorem dX7_restore_14 : decode cX7_restore 14 = .ok (.aload_n 0, 1) := by decide +kernel
theorem dX7_restore_15 : decode cX7_restore 15 = .ok (.getfield 19, 3) := by decide +kernel
theorem dX7_restore_18 : decode cX7_restore 18 = .ok (.iconst 0, 1) := by decide +kernel
theorem dX7_restore_19 : decode cX7_restore 19 = .ok (.aload_n 0, 1) := by decide +kernel
theorem dX7_restore_20 : decode cX7_restore 20 = .ok (.getfield 7, 3) := by decide +kernel
theorem dX7_restore_23 : decode cX7_restore 23 = .ok (.iconst 0, 1) := by decide +kernel
theorem dX7_restore_24 : decode cX7_restore 24 = .ok (.invokestatic 37, 3) := by decide +kernel
theorem dX7_restore_27 : decode cX7_restore 27 = .ok (.aload_n 0, 1) := by decide +kernel
theorem dX7_restore_28 : decode cX7_restore 28 = .ok (.invokevirtual 105, 3) := by decide +kernel
theorem dX7_restore_31 : decode cX7_restore 31 = .ok (.ireturn, 1) := by decide +kernel
