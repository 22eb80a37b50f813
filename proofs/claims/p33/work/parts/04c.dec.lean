theorem dL_lot_0 : decode cL_lot 0 = .ok (.iload_n 1, 1) := by decide +kernel
theorem dL_lot_1 : decode cL_lot 1 = .ok (.aload_n 0, 1) := by decide +kernel
theorem dL_lot_2 : decode cL_lot 2 = .ok (.arraylength, 1) := by decide +kernel
theorem dL_lot_3 : decode cL_lot 3 = .ok (.if_icmp .ge 9, 3) := by decide +kernel
theorem dL_lot_6 : decode cL_lot 6 = .ok (.aload_n 0, 1) := by decide +kernel
theorem dL_lot_7 : decode cL_lot 7 = .ok (.iload_n 1, 1) := by decide +kernel
theorem dL_lot_8 : decode cL_lot 8 = .ok (.iaload, 1) := by decide +kernel
theorem dL_lot_9 : decode cL_lot 9 = .ok (.goto 15, 3) := by decide +kernel
theorem dL_lot_12 : decode cL_lot 12 = .ok (.ldc 7, 2) := by decide +kernel
theorem dL_lot_14 : decode cL_lot 14 = .ok (.iload_n 1, 1) := by decide +kernel
theorem dL_lot_15 : decode cL_lot 15 = .ok (.sipush 4759, 3) := by decide +kernel
theorem dL_lot_18 : decode cL_lot 18 = .ok (.iadd, 1) := by decide +kernel
theorem dL_lot_19 : decode cL_lot 19 = .ok (.imul, 1) := by decide +kernel
theorem dL_lot_20 : decode cL_lot 20 = .ok (.sipush 4523, 3) := by decide +kernel
theorem dL_lot_23 : decode cL_lot 23 = .ok (.iadd, 1) := by decide +kernel
theorem dL_lot_24 : decode cL_lot 24 = .ok (.ireturn, 1) := by decide +kernel
theorem dL_low_0 : decode cL_low 0 = .ok (.iload_n 0, 1) := by decide +kernel
theorem dL_low_1 : decode cL_low 1 = .ok (.ldc 8, 2) := by decide +kernel
theorem dL_low_3 : decode cL_low 3 = .ok (.iand, 1) := by decide +kernel
theorem dL_low_4 : decode cL_low 4 = .ok (.iload_n 1, 1) := by decide +kernel
theorem dL_low_5 : decode cL_low 5 = .ok (.irem, 1) := by decide +kernel
theorem dL_low_6 : decode cL_low 6 = .ok (.ireturn, 1) := by decide +kernel
theorem dL_bridge_0 : decode cL_bridge 0 = .ok (.iload_n 0, 1) := by decide +kernel
theorem dL_bridge_1 : decode cL_bridge 1 = .ok (.ifCond .lt 36, 3) := by decide +kernel
theorem dL_bridge_4 : decode cL_bridge 4 = .ok (.iload_n 0, 1) := by decide +kernel
theorem dL_bridge_5 : decode cL_bridge 5 = .ok (.bipush 28, 2) := by decide +kernel
theorem dL_bridge_7 : decode cL_bridge 7 = .ok (.if_icmp .ge 30, 3) := by decide +kernel
theorem dL_bridge_10 : decode cL_bridge 10 = .ok (.iload_n 0, 1) := by decide +kernel
theorem dL_bridge_11 : decode cL_bridge 11 = .ok (.iconst 3, 1) := by decide +kernel
theorem dL_bridge_12 : decode cL_bridge 12 = .ok (.if_icmp .eq 25, 3) := by decide +kernel
theorem dL_bridge_15 : decode cL_bridge 15 = .ok (.iload_n 0, 1) := by decide +kernel
theorem dL_bridge_16 : decode cL_bridge 16 = .ok (.bipush 7, 2) := by decide +kernel
theorem dL_bridge_18 : decode cL_bridge 18 = .ok (.if_icmp .eq 19, 3) := by decide +kernel
theorem dL_bridge_21 : decode cL_bridge 21 = .ok (.iload_n 0, 1) := by decide +kernel
theorem dL_bridge_22 : decode cL_bridge 22 = .ok (.bipush 11, 2) := by decide +kernel
theorem dL_bridge_24 : decode cL_bridge 24 = .ok (.if_icmp .eq 13, 3) := by decide +kernel
theorem dL_bridge_27 : decode cL_bridge 27 = .ok (.iload_n 0, 1) := by decide +kernel
theorem dL_bridge_28 : decode cL_bridge 28 = .ok (.bipush 15, 2) := by decide +kernel
theorem dL_bridge_30 : decode cL_bridge 30 = .ok (.if_icmp .eq 7, 3) := by decide +kernel
theorem dL_bridge_33 : decode cL_bridge 33 = .ok (.iconst 1, 1) := by decide +kernel
theorem dL_bridge_34 : decode cL_bridge 34 = .ok (.goto 4, 3) := by decide +kernel
theorem dL_bridge_37 : decode cL_bridge 37 = .ok (.iconst 0, 1) := by decide +kernel
theorem dL_bridge_38 : decode cL_bridge 38 = .ok (.ireturn, 1) := by decide +kernel
theorem dL_look_0 : decode cL_look 0 = .ok (.ldc2_w 9, 3) := by decide +kernel
theorem dL_look_3 : decode cL_look 3 = .ok (.lstore_n 1, 1) := by decide +kernel
theorem dL_look_4 : decode cL_look 4 = .ok (.iconst 0, 1) := by decide +kernel
theorem dL_look_5 : decode cL_look 5 = .ok (.istore_n 3, 1) := by decide +kernel
theorem dL_look_6 : decode cL_look 6 = .ok (.iload_n 3, 1) := by decide +kernel
theorem dL_look_7 : decode cL_look 7 = .ok (.bipush 16, 2) := by decide +kernel
theorem dL_look_9 : decode cL_look 9 = .ok (.if_icmp .ge 46, 3) := by decide +kernel
theorem dL_look_12 : decode cL_look 12 = .ok (.ldc2_w 11, 3) := by decide +kernel
theorem dL_look_15 : decode cL_look 15 = .ok (.ldc2_w 11, 3) := by decide +kernel
theorem dL_look_18 : decode cL_look 18 = .ok (.ldc2_w 11, 3) := by decide +kernel
theorem dL_look_21 : decode cL_look 21 = .ok (.lload_n 1, 1) := by decide +kernel
theorem dL_look_22 : decode cL_look 22 = .ok (.lmul, 1) := by decide +kernel
theorem dL_look_23 : decode cL_look 23 = .ok (.aload_n 0, 1) := by decide +kernel
theorem dL_look_24 : decode cL_look 24 = .ok (.iload_n 3, 1) := by decide +kernel
theorem dL_look_25 : decode cL_look 25 = .ok (.invokevirtual 13, 3) := by decide +kernel
theorem dL_look_28 : decode cL_look 28 = .ok (.i2l, 1) := by decide +kernel
theorem dL_look_29 : decode cL_look 29 = .ok (.ladd, 1) := by decide +kernel
theorem dL_look_30 : decode cL_look 30 = .ok (.lmul, 1) := by decide +kernel
theorem dL_look_31 : decode cL_look 31 = .ok (.aload_n 0, 1) := by decide +kernel
theorem dL_look_32 : decode cL_look 32 = .ok (.iload_n 3, 1) := by decide +kernel
theorem dL_look_33 : decode cL_look 33 = .ok (.iconst 0, 1) := by decide +kernel
theorem dL_look_34 : decode cL_look 34 = .ok (.invokevirtual 19, 3) := by decide +kernel
theorem dL_look_37 : decode cL_look 37 = .ok (.i2l, 1) := by decide +kernel
theorem dL_look_38 : decode cL_look 38 = .ok (.ladd, 1) := by decide +kernel
theorem dL_look_39 : decode cL_look 39 = .ok (.lmul, 1) := by decide +kernel
theorem dL_look_40 : decode cL_look 40 = .ok (.aload_n 0, 1) := by decide +kernel
theorem dL_look_41 : decode cL_look 41 = .ok (.iload_n 3, 1) := by decide +kernel
theorem dL_look_42 : decode cL_look 42 = .ok (.iconst 3, 1) := by decide +kernel
theorem dL_look_43 : decode cL_look 43 = .ok (.invokevirtual 19, 3) := by decide +kernel
theorem dL_look_46 : decode cL_look 46 = .ok (.i2l, 1) := by decide +kernel
theorem dL_look_47 : decode cL_look 47 = .ok (.ladd, 1) := by decide +kernel
theorem dL_look_48 : decode cL_look 48 = .ok (.lstore_n 1, 1) := by decide +kernel
theorem dL_look_49 : decode cL_look 49 = .ok (.iinc 3 1, 3) := by decide +kernel
theorem dL_look_52 : decode cL_look 52 = .ok (.goto (-46), 3) := by decide +kernel
theorem dL_look_55 : decode cL_look 55 = .ok (.iconst 0, 1) := by decide +kernel
theorem dL_look_56 : decode cL_look 56 = .ok (.istore_n 3, 1) := by decide +kernel
theorem dL_look_57 : decode cL_look 57 = .ok (.iload_n 3, 1) := by decide +kernel
theorem dL_look_58 : decode cL_look 58 = .ok (.bipush 28, 2) := by decide +kernel
theorem dL_look_60 : decode cL_look 60 = .ok (.if_icmp .ge 47, 3) := by decide +kernel
theorem dL_look_63 : decode cL_look 63 = .ok (.iconst 0, 1) := by decide +kernel
theorem dL_look_64 : decode cL_look 64 = .ok (.istore 4, 2) := by decide +kernel
theorem dL_look_66 : decode cL_look 66 = .ok (.iload 4, 2) := by decide +kernel
theorem dL_look_68 : decode cL_look 68 = .ok (.bipush 6, 2) := by decide +kernel
theorem dL_look_70 : decode cL_look 70 = .ok (.if_icmp .ge 31, 3) := by decide +kernel
theorem dL_look_73 : decode cL_look 73 = .ok (.iload_n 3, 1) := by decide +kernel
theorem dL_look_74 : decode cL_look 74 = .ok (.invokestatic 23, 3) := by decide +kernel
theorem dL_look_77 : decode cL_look 77 = .ok (.ifCond .eq 24, 3) := by decide +kernel
theorem dL_look_80 : decode cL_look 80 = .ok (.ldc2_w 11, 3) := by decide +kernel
theorem dL_look_83 : decode cL_look 83 = .ok (.lload_n 1, 1) := by decide +kernel
theorem dL_look_84 : decode cL_look 84 = .ok (.lmul, 1) := by decide +kernel
theorem dL_look_85 : decode cL_look 85 = .ok (.aload_n 0, 1) := by decide +kernel
theorem dL_look_86 : decode cL_look 86 = .ok (.iload_n 3, 1) := by decide +kernel
theorem dL_look_87 : decode cL_look 87 = .ok (.iload 4, 2) := by decide +kernel
theorem dL_look_89 : decode cL_look 89 = .ok (.invokevirtual 29, 3) := by decide +kernel
theorem dL_look_92 : decode cL_look 92 = .ok (.i2l, 1) := by decide +kernel
theorem dL_look_93 : decode cL_look 93 = .ok (.ladd, 1) := by decide +kernel
theorem dL_look_94 : decode cL_look 94 = .ok (.lstore_n 1, 1) := by decide +kernel
theorem dL_look_95 : decode cL_look 95 = .ok (.iinc 4 1, 3) := by decide +kernel
theorem dL_look_98 : decode cL_look 98 = .ok (.goto (-32), 3) := by decide +kernel
theorem dL_look_101 : decode cL_look 101 = .ok (.iinc 3 1, 3) := by decide +kernel
theorem dL_look_104 : decode cL_look 104 = .ok (.goto (-47), 3) := by decide +kernel
theorem dL_look_107 : decode cL_look 107 = .ok (.iconst 0, 1) := by decide +kernel
theorem dL_look_108 : decode cL_look 108 = .ok (.istore_n 3, 1) := by decide +kernel
theorem dL_look_109 : decode cL_look 109 = .ok (.iload_n 3, 1) := by decide +kernel
theorem dL_look_110 : decode cL_look 110 = .ok (.iconst 4, 1) := by decide +kernel
theorem dL_look_111 : decode cL_look 111 = .ok (.if_icmp .ge 54, 3) := by decide +kernel
theorem dL_look_114 : decode cL_look 114 = .ok (.iconst 0, 1) := by decide +kernel
theorem dL_look_115 : decode cL_look 115 = .ok (.istore 4, 2) := by decide +kernel
theorem dL_look_117 : decode cL_look 117 = .ok (.iload 4, 2) := by decide +kernel
theorem dL_look_119 : decode cL_look 119 = .ok (.iconst 4, 1) := by decide +kernel
theorem dL_look_120 : decode cL_look 120 = .ok (.if_icmp .ge 24, 3) := by decide +kernel
theorem dL_look_123 : decode cL_look 123 = .ok (.ldc2_w 11, 3) := by decide +kernel
theorem dL_look_126 : decode cL_look 126 = .ok (.lload_n 1, 1) := by decide +kernel
theorem dL_look_127 : decode cL_look 127 = .ok (.lmul, 1) := by decide +kernel
theorem dL_look_128 : decode cL_look 128 = .ok (.aload_n 0, 1) := by decide +kernel
theorem dL_look_129 : decode cL_look 129 = .ok (.iload_n 3, 1) := by decide +kernel
theorem dL_look_130 : decode cL_look 130 = .ok (.iload 4, 2) := by decide +kernel
theorem dL_look_132 : decode cL_look 132 = .ok (.invokevirtual 32, 3) := by decide +kernel
theorem dL_look_135 : decode cL_look 135 = .ok (.i2l, 1) := by decide +kernel
theorem dL_look_136 : decode cL_look 136 = .ok (.ladd, 1) := by decide +kernel
theorem dL_look_137 : decode cL_look 137 = .ok (.lstore_n 1, 1) := by decide +kernel
theorem dL_look_138 : decode cL_look 138 = .ok (.iinc 4 1, 3) := by decide +kernel
theorem dL_look_141 : decode cL_look 141 = .ok (.goto (-24), 3) := by decide +kernel
theorem dL_look_144 : decode cL_look 144 = .ok (.ldc2_w 11, 3) := by decide +kernel
theorem dL_look_147 : decode cL_look 147 = .ok (.lload_n 1, 1) := by decide +kernel
theorem dL_look_148 : decode cL_look 148 = .ok (.lmul, 1) := by decide +kernel
theorem dL_look_149 : decode cL_look 149 = .ok (.aload_n 0, 1) := by decide +kernel
theorem dL_look_150 : decode cL_look 150 = .ok (.iload_n 3, 1) := by decide +kernel
theorem dL_look_151 : decode cL_look 151 = .ok (.bipush 7, 2) := by decide +kernel
theorem dL_look_153 : decode cL_look 153 = .ok (.invokevirtual 32, 3) := by decide +kernel
theorem dL_look_156 : decode cL_look 156 = .ok (.i2l, 1) := by decide +kernel
theorem dL_look_157 : decode cL_look 157 = .ok (.ladd, 1) := by decide +kernel
theorem dL_look_158 : decode cL_look 158 = .ok (.lstore_n 1, 1) := by decide +kernel
theorem dL_look_159 : decode cL_look 159 = .ok (.iinc 3 1, 3) := by decide +kernel
theorem dL_look_162 : decode cL_look 162 = .ok (.goto (-53), 3) := by decide +kernel
theorem dL_look_165 : decode cL_look 165 = .ok (.lload_n 1, 1) := by decide +kernel
theorem dL_look_166 : decode cL_look 166 = .ok (.lreturn, 1) := by decide +kernel
theorem dL_holds_0 : decode cL_holds 0 = .ok (.iconst 0, 1) := by decide +kernel
theorem dL_holds_1 : decode cL_holds 1 = .ok (.istore_n 1, 1) := by decide +kernel
theorem dL_holds_2 : decode cL_holds 2 = .ok (.iconst 0, 1) := by decide +kernel
theorem dL_holds_3 : decode cL_holds 3 = .ok (.istore_n 2, 1) := by decide +kernel
theorem dL_holds_4 : decode cL_holds 4 = .ok (.iconst 0, 1) := by decide +kernel
theorem dL_holds_5 : decode cL_holds 5 = .ok (.istore_n 3, 1) := by decide +kernel
theorem dL_holds_6 : decode cL_holds 6 = .ok (.iconst 0, 1) := by decide +kernel
theorem dL_holds_7 : decode cL_holds 7 = .ok (.istore 4, 2) := by decide +kernel
theorem dL_holds_9 : decode cL_holds 9 = .ok (.iconst 0, 1) := by decide +kernel
theorem dL_holds_10 : decode cL_holds 10 = .ok (.istore 5, 2) := by decide +kernel
theorem dL_holds_12 : decode cL_holds 12 = .ok (.iconst 0, 1) := by decide +kernel
theorem dL_holds_13 : decode cL_holds 13 = .ok (.istore 6, 2) := by decide +kernel
theorem dL_holds_15 : decode cL_holds 15 = .ok (.iconst 0, 1) := by decide +kernel
theorem dL_holds_16 : decode cL_holds 16 = .ok (.istore 7, 2) := by decide +kernel
theorem dL_holds_18 : decode cL_holds 18 = .ok (.iconst 0, 1) := by decide +kernel
theorem dL_holds_19 : decode cL_holds 19 = .ok (.istore 8, 2) := by decide +kernel
theorem dL_holds_21 : decode cL_holds 21 = .ok (.aload_n 0, 1) := by decide +kernel
theorem dL_holds_22 : decode cL_holds 22 = .ok (.iconst 0, 1) := by decide +kernel
theorem dL_holds_23 : decode cL_holds 23 = .ok (.invokevirtual 13, 3) := by decide +kernel
theorem dL_holds_26 : decode cL_holds 26 = .ok (.ifCond .lt 92, 3) := by decide +kernel
theorem dL_holds_29 : decode cL_holds 29 = .ok (.aload_n 0, 1) := by decide +kernel
theorem dL_holds_30 : decode cL_holds 30 = .ok (.iconst 1, 1) := by decide +kernel
theorem dL_holds_31 : decode cL_holds 31 = .ok (.invokevirtual 13, 3) := by decide +kernel
theorem dL_holds_34 : decode cL_holds 34 = .ok (.ifCond .lt 84, 3) := by decide +kernel
theorem dL_holds_37 : decode cL_holds 37 = .ok (.aload_n 0, 1) := by decide +kernel
theorem dL_holds_38 : decode cL_holds 38 = .ok (.iconst 1, 1) := by decide +kernel
theorem dL_holds_39 : decode cL_holds 39 = .ok (.invokevirtual 13, 3) := by decide +kernel
theorem dL_holds_42 : decode cL_holds 42 = .ok (.iconst 4, 1) := by decide +kernel
theorem dL_holds_43 : decode cL_holds 43 = .ok (.if_icmp .ge 75, 3) := by decide +kernel
theorem dL_holds_46 : decode cL_holds 46 = .ok (.aload_n 0, 1) := by decide +kernel
theorem dL_holds_47 : decode cL_holds 47 = .ok (.bipush 14, 2) := by decide +kernel
theorem dL_holds_49 : decode cL_holds 49 = .ok (.invokevirtual 13, 3) := by decide +kernel
theorem dL_holds_52 : decode cL_holds 52 = .ok (.ifCond .lt 66, 3) := by decide +kernel
theorem dL_holds_55 : decode cL_holds 55 = .ok (.aload_n 0, 1) := by decide +kernel
theorem dL_holds_56 : decode cL_holds 56 = .ok (.bipush 14, 2) := by decide +kernel
theorem dL_holds_58 : decode cL_holds 58 = .ok (.invokevirtual 13, 3) := by decide +kernel
theorem dL_holds_61 : decode cL_holds 61 = .ok (.iconst 4, 1) := by decide +kernel
theorem dL_holds_62 : decode cL_holds 62 = .ok (.if_icmp .ge 56, 3) := by decide +kernel
theorem dL_holds_65 : decode cL_holds 65 = .ok (.aload_n 0, 1) := by decide +kernel
theorem dL_holds_66 : decode cL_holds 66 = .ok (.bipush 15, 2) := by decide +kernel
theorem dL_holds_68 : decode cL_holds 68 = .ok (.invokevirtual 13, 3) := by decide +kernel
theorem dL_holds_71 : decode cL_holds 71 = .ok (.ifCond .lt 47, 3) := by decide +kernel
theorem dL_holds_74 : decode cL_holds 74 = .ok (.aload_n 0, 1) := by decide +kernel
theorem dL_holds_75 : decode cL_holds 75 = .ok (.bipush 15, 2) := by decide +kernel
theorem dL_holds_77 : decode cL_holds 77 = .ok (.invokevirtual 13, 3) := by decide +kernel
theorem dL_holds_80 : decode cL_holds 80 = .ok (.sipush 10000, 3) := by decide +kernel
theorem dL_holds_83 : decode cL_holds 83 = .ok (.if_icmp .ge 35, 3) := by decide +kernel
theorem dL_holds_86 : decode cL_holds 86 = .ok (.aload_n 0, 1) := by decide +kernel
theorem dL_holds_87 : decode cL_holds 87 = .ok (.bipush 10, 2) := by decide +kernel
theorem dL_holds_89 : decode cL_holds 89 = .ok (.invokevirtual 13, 3) := by decide +kernel
theorem dL_holds_92 : decode cL_holds 92 = .ok (.aload_n 0, 1) := by decide +kernel
theorem dL_holds_93 : decode cL_holds 93 = .ok (.iconst 5, 1) := by decide +kernel
theorem dL_holds_94 : decode cL_holds 94 = .ok (.invokevirtual 13, 3) := by decide +kernel
theorem dL_holds_97 : decode cL_holds 97 = .ok (.aload_n 0, 1) := by decide +kernel
theorem dL_holds_98 : decode cL_holds 98 = .ok (.bipush 11, 2) := by decide +kernel
theorem dL_holds_100 : decode cL_holds 100 = .ok (.invokevirtual 13, 3) := by decide +kernel
theorem dL_holds_103 : decode cL_holds 103 = .ok (.iadd, 1) := by decide +kernel
theorem dL_holds_104 : decode cL_holds 104 = .ok (.aload_n 0, 1) := by decide +kernel
theorem dL_holds_105 : decode cL_holds 105 = .ok (.bipush 12, 2) := by decide +kernel
theorem dL_holds_107 : decode cL_holds 107 = .ok (.invokevirtual 13, 3) := by decide +kernel
theorem dL_holds_110 : decode cL_holds 110 = .ok (.iadd, 1) := by decide +kernel
theorem dL_holds_111 : decode cL_holds 111 = .ok (.if_icmp .ne 7, 3) := by decide +kernel
theorem dL_holds_114 : decode cL_holds 114 = .ok (.iconst 1, 1) := by decide +kernel
theorem dL_holds_115 : decode cL_holds 115 = .ok (.goto 4, 3) := by decide +kernel
theorem dL_holds_118 : decode cL_holds 118 = .ok (.iconst 0, 1) := by decide +kernel
theorem dL_holds_119 : decode cL_holds 119 = .ok (.istore 9, 2) := by decide +kernel
theorem dL_holds_121 : decode cL_holds 121 = .ok (.iconst 0, 1) := by decide +kernel
theorem dL_holds_122 : decode cL_holds 122 = .ok (.istore 10, 2) := by decide +kernel
theorem dL_holds_124 : decode cL_holds 124 = .ok (.iload 10, 2) := by decide +kernel
theorem dL_holds_126 : decode cL_holds 126 = .ok (.bipush 28, 2) := by decide +kernel
theorem dL_holds_128 : decode cL_holds 128 = .ok (.if_icmp .ge 368, 3) := by decide +kernel
theorem dL_holds_131 : decode cL_holds 131 = .ok (.iload 9, 2) := by decide +kernel
theorem dL_holds_133 : decode cL_holds 133 = .ok (.ifCond .eq 363, 3) := by decide +kernel
theorem dL_holds_136 : decode cL_holds 136 = .ok (.iload 10, 2) := by decide +kernel
theorem dL_holds_138 : decode cL_holds 138 = .ok (.invokestatic 23, 3) := by decide +kernel
theorem dL_holds_141 : decode cL_holds 141 = .ok (.ifCond .eq 331, 3) := by decide +kernel
theorem dL_holds_144 : decode cL_holds 144 = .ok (.aload_n 0, 1) := by decide +kernel
theorem dL_holds_145 : decode cL_holds 145 = .ok (.iload 10, 2) := by decide +kernel
theorem dL_holds_147 : decode cL_holds 147 = .ok (.iconst 3, 1) := by decide +kernel
theorem dL_holds_148 : decode cL_holds 148 = .ok (.invokevirtual 29, 3) := by decide +kernel
theorem dL_holds_151 : decode cL_holds 151 = .ok (.istore 11, 2) := by decide +kernel
theorem dL_holds_153 : decode cL_holds 153 = .ok (.aload_n 0, 1) := by decide +kernel
theorem dL_holds_154 : decode cL_holds 154 = .ok (.iload 10, 2) := by decide +kernel
theorem dL_holds_156 : decode cL_holds 156 = .ok (.iconst 1, 1) := by decide +kernel
theorem dL_holds_157 : decode cL_holds 157 = .ok (.invokevirtual 29, 3) := by decide +kernel
theorem dL_holds_160 : decode cL_holds 160 = .ok (.istore 12, 2) := by decide +kernel
theorem dL_holds_162 : decode cL_holds 162 = .ok (.aload_n 0, 1) := by decide +kernel
theorem dL_holds_163 : decode cL_holds 163 = .ok (.iload 10, 2) := by decide +kernel
theorem dL_holds_165 : decode cL_holds 165 = .ok (.iconst 2, 1) := by decide +kernel
theorem dL_holds_166 : decode cL_holds 166 = .ok (.invokevirtual 29, 3) := by decide +kernel
theorem dL_holds_169 : decode cL_holds 169 = .ok (.istore 13, 2) := by decide +kernel
theorem dL_holds_171 : decode cL_holds 171 = .ok (.iload_n 1, 1) := by decide +kernel
theorem dL_holds_172 : decode cL_holds 172 = .ok (.iload 11, 2) := by decide +kernel
theorem dL_holds_174 : decode cL_holds 174 = .ok (.bipush (-4), 2) := by decide +kernel
theorem dL_holds_176 : decode cL_holds 176 = .ok (.if_icmp .ne 7, 3) := by decide +kernel
theorem dL_holds_179 : decode cL_holds 179 = .ok (.iconst 0, 1) := by decide +kernel
theorem dL_holds_180 : decode cL_holds 180 = .ok (.goto 4, 3) := by decide +kernel
theorem dL_holds_183 : decode cL_holds 183 = .ok (.iconst 1, 1) := by decide +kernel
theorem dL_holds_184 : decode cL_holds 184 = .ok (.iadd, 1) := by decide +kernel
theorem dL_holds_185 : decode cL_holds 185 = .ok (.istore_n 1, 1) := by decide +kernel
theorem dL_holds_186 : decode cL_holds 186 = .ok (.iload_n 2, 1) := by decide +kernel
theorem dL_holds_187 : decode cL_holds 187 = .ok (.iload 11, 2) := by decide +kernel
theorem dL_holds_189 : decode cL_holds 189 = .ok (.bipush (-4), 2) := by decide +kernel
theorem dL_holds_191 : decode cL_holds 191 = .ok (.if_icmp .eq 27, 3) := by decide +kernel
theorem dL_holds_194 : decode cL_holds 194 = .ok (.aload_n 0, 1) := by decide +kernel
theorem dL_holds_195 : decode cL_holds 195 = .ok (.iload 10, 2) := by decide +kernel
theorem dL_holds_197 : decode cL_holds 197 = .ok (.iconst 4, 1) := by decide +kernel
theorem dL_holds_198 : decode cL_holds 198 = .ok (.invokevirtual 29, 3) := by decide +kernel
theorem dL_holds_201 : decode cL_holds 201 = .ok (.ifCond .ne 17, 3) := by decide +kernel
theorem dL_holds_204 : decode cL_holds 204 = .ok (.aload_n 0, 1) := by decide +kernel
theorem dL_holds_205 : decode cL_holds 205 = .ok (.iload 10, 2) := by decide +kernel
theorem dL_holds_207 : decode cL_holds 207 = .ok (.iconst 5, 1) := by decide +kernel
theorem dL_holds_208 : decode cL_holds 208 = .ok (.invokevirtual 29, 3) := by decide +kernel
theorem dL_holds_211 : decode cL_holds 211 = .ok (.ifCond .ne 7, 3) := by decide +kernel
theorem dL_holds_214 : decode cL_holds 214 = .ok (.iconst 1, 1) := by decide +kernel
theorem dL_holds_215 : decode cL_holds 215 = .ok (.goto 4, 3) := by decide +kernel
theorem dL_holds_218 : decode cL_holds 218 = .ok (.iconst 0, 1) := by decide +kernel
theorem dL_holds_219 : decode cL_holds 219 = .ok (.iadd, 1) := by decide +kernel
theorem dL_holds_220 : decode cL_holds 220 = .ok (.istore_n 2, 1) := by decide +kernel
theorem dL_holds_221 : decode cL_holds 221 = .ok (.iload_n 3, 1) := by decide +kernel
theorem dL_holds_222 : decode cL_holds 222 = .ok (.iload 11, 2) := by decide +kernel
theorem dL_holds_224 : decode cL_holds 224 = .ok (.bipush (-4), 2) := by decide +kernel
theorem dL_holds_226 : decode cL_holds 226 = .ok (.if_icmp .ne 7, 3) := by decide +kernel
theorem dL_holds_229 : decode cL_holds 229 = .ok (.iconst 0, 1) := by decide +kernel
theorem dL_holds_230 : decode cL_holds 230 = .ok (.goto 10, 3) := by decide +kernel
theorem dL_holds_233 : decode cL_holds 233 = .ok (.aload_n 0, 1) := by decide +kernel
theorem dL_holds_234 : decode cL_holds 234 = .ok (.iload 10, 2) := by decide +kernel
theorem dL_holds_236 : decode cL_holds 236 = .ok (.iconst 4, 1) := by decide +kernel
theorem dL_holds_237 : decode cL_holds 237 = .ok (.invokevirtual 29, 3) := by decide +kernel
theorem dL_holds_240 : decode cL_holds 240 = .ok (.iadd, 1) := by decide +kernel
theorem dL_holds_241 : decode cL_holds 241 = .ok (.istore_n 3, 1) := by decide +kernel
theorem dL_holds_242 : decode cL_holds 242 = .ok (.iload 4, 2) := by decide +kernel
theorem dL_holds_244 : decode cL_holds 244 = .ok (.iload 11, 2) := by decide +kernel
theorem dL_holds_246 : decode cL_holds 246 = .ok (.bipush (-4), 2) := by decide +kernel
theorem dL_holds_248 : decode cL_holds 248 = .ok (.if_icmp .ne 7, 3) := by decide +kernel
theorem dL_holds_251 : decode cL_holds 251 = .ok (.iconst 0, 1) := by decide +kernel
theorem dL_holds_252 : decode cL_holds 252 = .ok (.goto 10, 3) := by decide +kernel
theorem dL_holds_255 : decode cL_holds 255 = .ok (.aload_n 0, 1) := by decide +kernel
theorem dL_holds_256 : decode cL_holds 256 = .ok (.iload 10, 2) := by decide +kernel
theorem dL_holds_258 : decode cL_holds 258 = .ok (.iconst 5, 1) := by decide +kernel
theorem dL_holds_259 : decode cL_holds 259 = .ok (.invokevirtual 29, 3) := by decide +kernel
theorem dL_holds_262 : decode cL_holds 262 = .ok (.iadd, 1) := by decide +kernel
theorem dL_holds_263 : decode cL_holds 263 = .ok (.istore 4, 2) := by decide +kernel
theorem dL_holds_265 : decode cL_holds 265 = .ok (.iload 5, 2) := by decide +kernel
theorem dL_holds_267 : decode cL_holds 267 = .ok (.iload 11, 2) := by decide +kernel
theorem dL_holds_269 : decode cL_holds 269 = .ok (.bipush (-4), 2) := by decide +kernel
theorem dL_holds_271 : decode cL_holds 271 = .ok (.if_icmp .eq 18, 3) := by decide +kernel
theorem dL_holds_274 : decode cL_holds 274 = .ok (.aload_n 0, 1) := by decide +kernel
theorem dL_holds_275 : decode cL_holds 275 = .ok (.iload 10, 2) := by decide +kernel
theorem dL_holds_277 : decode cL_holds 277 = .ok (.bipush 6, 2) := by decide +kernel
theorem dL_holds_279 : decode cL_holds 279 = .ok (.invokevirtual 29, 3) := by decide +kernel
theorem dL_holds_282 : decode cL_holds 282 = .ok (.ifCond .le 7, 3) := by decide +kernel
theorem dL_holds_285 : decode cL_holds 285 = .ok (.iconst 1, 1) := by decide +kernel
theorem dL_holds_286 : decode cL_holds 286 = .ok (.goto 4, 3) := by decide +kernel
theorem dL_holds_289 : decode cL_holds 289 = .ok (.iconst 0, 1) := by decide +kernel
theorem dL_holds_290 : decode cL_holds 290 = .ok (.iadd, 1) := by decide +kernel
theorem dL_holds_291 : decode cL_holds 291 = .ok (.istore 5, 2) := by decide +kernel
theorem dL_holds_293 : decode cL_holds 293 = .ok (.aload_n 0, 1) := by decide +kernel
theorem dL_holds_294 : decode cL_holds 294 = .ok (.iload 10, 2) := by decide +kernel
theorem dL_holds_296 : decode cL_holds 296 = .ok (.iconst 0, 1) := by decide +kernel
theorem dL_holds_297 : decode cL_holds 297 = .ok (.invokevirtual 29, 3) := by decide +kernel
theorem dL_holds_300 : decode cL_holds 300 = .ok (.ifCond .lt 166, 3) := by decide +kernel
theorem dL_holds_303 : decode cL_holds 303 = .ok (.aload_n 0, 1) := by decide +kernel
theorem dL_holds_304 : decode cL_holds 304 = .ok (.iload 10, 2) := by decide +kernel
theorem dL_holds_306 : decode cL_holds 306 = .ok (.iconst 0, 1) := by decide +kernel
theorem dL_holds_307 : decode cL_holds 307 = .ok (.invokevirtual 29, 3) := by decide +kernel
theorem dL_holds_310 : decode cL_holds 310 = .ok (.bipush 9, 2) := by decide +kernel
theorem dL_holds_312 : decode cL_holds 312 = .ok (.if_icmp .gt 154, 3) := by decide +kernel
theorem dL_holds_315 : decode cL_holds 315 = .ok (.iload 10, 2) := by decide +kernel
theorem dL_holds_317 : decode cL_holds 317 = .ok (.bipush 16, 2) := by decide +kernel
theorem dL_holds_319 : decode cL_holds 319 = .ok (.if_icmp .ge 22, 3) := by decide +kernel
theorem dL_holds_322 : decode cL_holds 322 = .ok (.iload 12, 2) := by decide +kernel
theorem dL_holds_324 : decode cL_holds 324 = .ok (.iload 10, 2) := by decide +kernel
theorem dL_holds_326 : decode cL_holds 326 = .ok (.if_icmp .ne 140, 3) := by decide +kernel
theorem dL_holds_329 : decode cL_holds 329 = .ok (.iload 13, 2) := by decide +kernel
theorem dL_holds_331 : decode cL_holds 331 = .ok (.iload 10, 2) := by decide +kernel
theorem dL_holds_333 : decode cL_holds 333 = .ok (.iconst 1, 1) := by decide +kernel
theorem dL_holds_334 : decode cL_holds 334 = .ok (.iadd, 1) := by decide +kernel
theorem dL_holds_335 : decode cL_holds 335 = .ok (.if_icmp .ne 131, 3) := by decide +kernel
theorem dL_holds_338 : decode cL_holds 338 = .ok (.goto 23, 3) := by decide +kernel
theorem dL_holds_341 : decode cL_holds 341 = .ok (.iload 12, 2) := by decide +kernel
theorem dL_holds_343 : decode cL_holds 343 = .ok (.iload 10, 2) := by decide +kernel
theorem dL_holds_345 : decode cL_holds 345 = .ok (.bipush 16, 2) := by decide +kernel
theorem dL_holds_347 : decode cL_holds 347 = .ok (.isub, 1) := by decide +kernel
theorem dL_holds_348 : decode cL_holds 348 = .ok (.if_icmp .ne 118, 3) := by decide +kernel
theorem dL_holds_351 : decode cL_holds 351 = .ok (.iload 13, 2) := by decide +kernel
theorem dL_holds_353 : decode cL_holds 353 = .ok (.iload 10, 2) := by decide +kernel
theorem dL_holds_355 : decode cL_holds 355 = .ok (.bipush 12, 2) := by decide +kernel
theorem dL_holds_357 : decode cL_holds 357 = .ok (.isub, 1) := by decide +kernel
theorem dL_holds_358 : decode cL_holds 358 = .ok (.if_icmp .ne 108, 3) := by decide +kernel
theorem dL_holds_361 : decode cL_holds 361 = .ok (.iload 11, 2) := by decide +kernel
theorem dL_holds_363 : decode cL_holds 363 = .ok (.bipush (-4), 2) := by decide +kernel
theorem dL_holds_365 : decode cL_holds 365 = .ok (.if_icmp .ne 30, 3) := by decide +kernel
theorem dL_holds_368 : decode cL_holds 368 = .ok (.aload_n 0, 1) := by decide +kernel
theorem dL_holds_369 : decode cL_holds 369 = .ok (.iload 10, 2) := by decide +kernel
theorem dL_holds_371 : decode cL_holds 371 = .ok (.iconst 4, 1) := by decide +kernel
theorem dL_holds_372 : decode cL_holds 372 = .ok (.invokevirtual 29, 3) := by decide +kernel
theorem dL_holds_375 : decode cL_holds 375 = .ok (.bipush (-4), 2) := by decide +kernel
theorem dL_holds_377 : decode cL_holds 377 = .ok (.if_icmp .ne 89, 3) := by decide +kernel
theorem dL_holds_380 : decode cL_holds 380 = .ok (.aload_n 0, 1) := by decide +kernel
theorem dL_holds_381 : decode cL_holds 381 = .ok (.iload 10, 2) := by decide +kernel
theorem dL_holds_383 : decode cL_holds 383 = .ok (.iconst 5, 1) := by decide +kernel
theorem dL_holds_384 : decode cL_holds 384 = .ok (.invokevirtual 29, 3) := by decide +kernel
theorem dL_holds_387 : decode cL_holds 387 = .ok (.bipush (-4), 2) := by decide +kernel
theorem dL_holds_389 : decode cL_holds 389 = .ok (.if_icmp .ne 77, 3) := by decide +kernel
theorem dL_holds_392 : decode cL_holds 392 = .ok (.goto 44, 3) := by decide +kernel
theorem dL_holds_395 : decode cL_holds 395 = .ok (.iload 11, 2) := by decide +kernel
theorem dL_holds_397 : decode cL_holds 397 = .ok (.ifCond .lt 69, 3) := by decide +kernel
theorem dL_holds_400 : decode cL_holds 400 = .ok (.iload 11, 2) := by decide +kernel
theorem dL_holds_402 : decode cL_holds 402 = .ok (.iconst 4, 1) := by decide +kernel
theorem dL_holds_403 : decode cL_holds 403 = .ok (.if_icmp .ge 63, 3) := by decide +kernel
theorem dL_holds_406 : decode cL_holds 406 = .ok (.aload_n 0, 1) := by decide +kernel
theorem dL_holds_407 : decode cL_holds 407 = .ok (.iload 10, 2) := by decide +kernel
theorem dL_holds_409 : decode cL_holds 409 = .ok (.iconst 0, 1) := by decide +kernel
theorem dL_holds_410 : decode cL_holds 410 = .ok (.invokevirtual 29, 3) := by decide +kernel
theorem dL_holds_413 : decode cL_holds 413 = .ok (.ifCond .le 53, 3) := by decide +kernel
theorem dL_holds_416 : decode cL_holds 416 = .ok (.aload_n 0, 1) := by decide +kernel
theorem dL_holds_417 : decode cL_holds 417 = .ok (.iload 10, 2) := by decide +kernel
theorem dL_holds_419 : decode cL_holds 419 = .ok (.iconst 4, 1) := by decide +kernel
theorem dL_holds_420 : decode cL_holds 420 = .ok (.invokevirtual 29, 3) := by decide +kernel
theorem dL_holds_423 : decode cL_holds 423 = .ok (.ifCond .lt 43, 3) := by decide +kernel
theorem dL_holds_426 : decode cL_holds 426 = .ok (.aload_n 0, 1) := by decide +kernel
theorem dL_holds_427 : decode cL_holds 427 = .ok (.iload 10, 2) := by decide +kernel
theorem dL_holds_429 : decode cL_holds 429 = .ok (.iconst 5, 1) := by decide +kernel
theorem dL_holds_430 : decode cL_holds 430 = .ok (.invokevirtual 29, 3) := by decide +kernel
theorem dL_holds_433 : decode cL_holds 433 = .ok (.ifCond .lt 33, 3) := by decide +kernel
theorem dL_holds_436 : decode cL_holds 436 = .ok (.aload_n 0, 1) := by decide +kernel
theorem dL_holds_437 : decode cL_holds 437 = .ok (.iload 10, 2) := by decide +kernel
theorem dL_holds_439 : decode cL_holds 439 = .ok (.bipush 6, 2) := by decide +kernel
theorem dL_holds_441 : decode cL_holds 441 = .ok (.invokevirtual 29, 3) := by decide +kernel
theorem dL_holds_444 : decode cL_holds 444 = .ok (.aload_n 0, 1) := by decide +kernel
theorem dL_holds_445 : decode cL_holds 445 = .ok (.iload 12, 2) := by decide +kernel
theorem dL_holds_447 : decode cL_holds 447 = .ok (.iconst 1, 1) := by decide +kernel
theorem dL_holds_448 : decode cL_holds 448 = .ok (.invokevirtual 19, 3) := by decide +kernel
theorem dL_holds_451 : decode cL_holds 451 = .ok (.aload_n 0, 1) := by decide +kernel
theorem dL_holds_452 : decode cL_holds 452 = .ok (.iload 13, 2) := by decide +kernel
theorem dL_holds_454 : decode cL_holds 454 = .ok (.iconst 1, 1) := by decide +kernel
theorem dL_holds_455 : decode cL_holds 455 = .ok (.invokevirtual 19, 3) := by decide +kernel
theorem dL_holds_458 : decode cL_holds 458 = .ok (.iadd, 1) := by decide +kernel
theorem dL_holds_459 : decode cL_holds 459 = .ok (.if_icmp .ne 7, 3) := by decide +kernel
theorem dL_holds_462 : decode cL_holds 462 = .ok (.iconst 1, 1) := by decide +kernel
theorem dL_holds_463 : decode cL_holds 463 = .ok (.goto 4, 3) := by decide +kernel
theorem dL_holds_466 : decode cL_holds 466 = .ok (.iconst 0, 1) := by decide +kernel
theorem dL_holds_467 : decode cL_holds 467 = .ok (.istore 9, 2) := by decide +kernel
theorem dL_holds_469 : decode cL_holds 469 = .ok (.goto 21, 3) := by decide +kernel
theorem dL_holds_472 : decode cL_holds 472 = .ok (.aload_n 0, 1) := by decide +kernel
theorem dL_holds_473 : decode cL_holds 473 = .ok (.iload 10, 2) := by decide +kernel
theorem dL_holds_475 : decode cL_holds 475 = .ok (.iconst 0, 1) := by decide +kernel
theorem dL_holds_476 : decode cL_holds 476 = .ok (.invokevirtual 29, 3) := by decide +kernel
theorem dL_holds_479 : decode cL_holds 479 = .ok (.iconst (-1), 1) := by decide +kernel
theorem dL_holds_480 : decode cL_holds 480 = .ok (.if_icmp .ne 7, 3) := by decide +kernel
theorem dL_holds_483 : decode cL_holds 483 = .ok (.iconst 1, 1) := by decide +kernel
theorem dL_holds_484 : decode cL_holds 484 = .ok (.goto 4, 3) := by decide +kernel
theorem dL_holds_487 : decode cL_holds 487 = .ok (.iconst 0, 1) := by decide +kernel
theorem dL_holds_488 : decode cL_holds 488 = .ok (.istore 9, 2) := by decide +kernel
theorem dL_holds_490 : decode cL_holds 490 = .ok (.iinc 10 1, 3) := by decide +kernel
theorem dL_holds_493 : decode cL_holds 493 = .ok (.goto (-369), 3) := by decide +kernel
theorem dL_holds_496 : decode cL_holds 496 = .ok (.iconst 0, 1) := by decide +kernel
theorem dL_holds_497 : decode cL_holds 497 = .ok (.istore 10, 2) := by decide +kernel
theorem dL_holds_499 : decode cL_holds 499 = .ok (.iload 10, 2) := by decide +kernel
theorem dL_holds_501 : decode cL_holds 501 = .ok (.bipush 16, 2) := by decide +kernel
theorem dL_holds_503 : decode cL_holds 503 = .ok (.if_icmp .ge 356, 3) := by decide +kernel
theorem dL_holds_506 : decode cL_holds 506 = .ok (.iload 9, 2) := by decide +kernel
theorem dL_holds_508 : decode cL_holds 508 = .ok (.ifCond .eq 351, 3) := by decide +kernel
theorem dL_holds_511 : decode cL_holds 511 = .ok (.iconst 0, 1) := by decide +kernel
theorem dL_holds_512 : decode cL_holds 512 = .ok (.istore 11, 2) := by decide +kernel
theorem dL_holds_514 : decode cL_holds 514 = .ok (.iconst 0, 1) := by decide +kernel
theorem dL_holds_515 : decode cL_holds 515 = .ok (.istore 12, 2) := by decide +kernel
theorem dL_holds_517 : decode cL_holds 517 = .ok (.iconst 0, 1) := by decide +kernel
theorem dL_holds_518 : decode cL_holds 518 = .ok (.istore 13, 2) := by decide +kernel
theorem dL_holds_520 : decode cL_holds 520 = .ok (.iconst 0, 1) := by decide +kernel
theorem dL_holds_521 : decode cL_holds 521 = .ok (.istore 14, 2) := by decide +kernel
theorem dL_holds_523 : decode cL_holds 523 = .ok (.iload 14, 2) := by decide +kernel
theorem dL_holds_525 : decode cL_holds 525 = .ok (.bipush 28, 2) := by decide +kernel
theorem dL_holds_527 : decode cL_holds 527 = .ok (.if_icmp .ge 100, 3) := by decide +kernel
theorem dL_holds_530 : decode cL_holds 530 = .ok (.iload 14, 2) := by decide +kernel
theorem dL_holds_532 : decode cL_holds 532 = .ok (.invokestatic 23, 3) := by decide +kernel
theorem dL_holds_535 : decode cL_holds 535 = .ok (.ifCond .eq 31, 3) := by decide +kernel
theorem dL_holds_538 : decode cL_holds 538 = .ok (.aload_n 0, 1) := by decide +kernel
theorem dL_holds_539 : decode cL_holds 539 = .ok (.iload 14, 2) := by decide +kernel
theorem dL_holds_541 : decode cL_holds 541 = .ok (.iconst 1, 1) := by decide +kernel
theorem dL_holds_542 : decode cL_holds 542 = .ok (.invokevirtual 29, 3) := by decide +kernel
theorem dL_holds_545 : decode cL_holds 545 = .ok (.iload 10, 2) := by decide +kernel
theorem dL_holds_547 : decode cL_holds 547 = .ok (.if_icmp .eq 15, 3) := by decide +kernel
theorem dL_holds_550 : decode cL_holds 550 = .ok (.aload_n 0, 1) := by decide +kernel
theorem dL_holds_551 : decode cL_holds 551 = .ok (.iload 14, 2) := by decide +kernel
theorem dL_holds_553 : decode cL_holds 553 = .ok (.iconst 2, 1) := by decide +kernel
theorem dL_holds_554 : decode cL_holds 554 = .ok (.invokevirtual 29, 3) := by decide +kernel
theorem dL_holds_557 : decode cL_holds 557 = .ok (.iload 10, 2) := by decide +kernel
theorem dL_holds_559 : decode cL_holds 559 = .ok (.if_icmp .ne 7, 3) := by decide +kernel
theorem dL_holds_562 : decode cL_holds 562 = .ok (.iconst 1, 1) := by decide +kernel
theorem dL_holds_563 : decode cL_holds 563 = .ok (.goto 4, 3) := by decide +kernel
theorem dL_holds_566 : decode cL_holds 566 = .ok (.iconst 0, 1) := by decide +kernel
theorem dL_holds_567 : decode cL_holds 567 = .ok (.istore 15, 2) := by decide +kernel
theorem dL_holds_569 : decode cL_holds 569 = .ok (.iload 11, 2) := by decide +kernel
theorem dL_holds_571 : decode cL_holds 571 = .ok (.iload 15, 2) := by decide +kernel
theorem dL_holds_573 : decode cL_holds 573 = .ok (.ifCond .eq 17, 3) := by decide +kernel
theorem dL_holds_576 : decode cL_holds 576 = .ok (.aload_n 0, 1) := by decide +kernel
theorem dL_holds_577 : decode cL_holds 577 = .ok (.iload 14, 2) := by decide +kernel
theorem dL_holds_579 : decode cL_holds 579 = .ok (.iconst 0, 1) := by decide +kernel
theorem dL_holds_580 : decode cL_holds 580 = .ok (.invokevirtual 29, 3) := by decide +kernel
theorem dL_holds_583 : decode cL_holds 583 = .ok (.ifCond .le 7, 3) := by decide +kernel
theorem dL_holds_586 : decode cL_holds 586 = .ok (.iconst 1, 1) := by decide +kernel
theorem dL_holds_587 : decode cL_holds 587 = .ok (.goto 4, 3) := by decide +kernel
theorem dL_holds_590 : decode cL_holds 590 = .ok (.iconst 0, 1) := by decide +kernel
theorem dL_holds_591 : decode cL_holds 591 = .ok (.iadd, 1) := by decide +kernel
theorem dL_holds_592 : decode cL_holds 592 = .ok (.istore 11, 2) := by decide +kernel
theorem dL_holds_594 : decode cL_holds 594 = .ok (.iload 12, 2) := by decide +kernel
theorem dL_holds_596 : decode cL_holds 596 = .ok (.iload 15, 2) := by decide +kernel
theorem dL_holds_598 : decode cL_holds 598 = .ok (.ifCond .eq 19, 3) := by decide +kernel
theorem dL_holds_601 : decode cL_holds 601 = .ok (.aload_n 0, 1) := by decide +kernel
theorem dL_holds_602 : decode cL_holds 602 = .ok (.iload 14, 2) := by decide +kernel
theorem dL_holds_604 : decode cL_holds 604 = .ok (.iconst 3, 1) := by decide +kernel
theorem dL_holds_605 : decode cL_holds 605 = .ok (.invokevirtual 29, 3) := by decide +kernel
theorem dL_holds_608 : decode cL_holds 608 = .ok (.bipush (-4), 2) := by decide +kernel
theorem dL_holds_610 : decode cL_holds 610 = .ok (.if_icmp .eq 7, 3) := by decide +kernel
theorem dL_holds_613 : decode cL_holds 613 = .ok (.iconst 1, 1) := by decide +kernel
theorem dL_holds_614 : decode cL_holds 614 = .ok (.goto 4, 3) := by decide +kernel
theorem dL_holds_617 : decode cL_holds 617 = .ok (.iconst 0, 1) := by decide +kernel
theorem dL_holds_618 : decode cL_holds 618 = .ok (.iadd, 1) := by decide +kernel
theorem dL_holds_619 : decode cL_holds 619 = .ok (.istore 12, 2) := by decide +kernel
theorem dL_holds_621 : decode cL_holds 621 = .ok (.iinc 14 1, 3) := by decide +kernel
theorem dL_holds_624 : decode cL_holds 624 = .ok (.goto (-101), 3) := by decide +kernel
theorem dL_holds_627 : decode cL_holds 627 = .ok (.iconst 0, 1) := by decide +kernel
theorem dL_holds_628 : decode cL_holds 628 = .ok (.istore 14, 2) := by decide +kernel
theorem dL_holds_630 : decode cL_holds 630 = .ok (.iload 14, 2) := by decide +kernel
theorem dL_holds_632 : decode cL_holds 632 = .ok (.iconst 4, 1) := by decide +kernel
theorem dL_holds_633 : decode cL_holds 633 = .ok (.if_icmp .ge 34, 3) := by decide +kernel
theorem dL_holds_636 : decode cL_holds 636 = .ok (.iload 13, 2) := by decide +kernel
theorem dL_holds_638 : decode cL_holds 638 = .ok (.aload_n 0, 1) := by decide +kernel
theorem dL_holds_639 : decode cL_holds 639 = .ok (.iload 14, 2) := by decide +kernel
theorem dL_holds_641 : decode cL_holds 641 = .ok (.iconst 3, 1) := by decide +kernel
theorem dL_holds_642 : decode cL_holds 642 = .ok (.invokevirtual 32, 3) := by decide +kernel
theorem dL_holds_645 : decode cL_holds 645 = .ok (.iload 10, 2) := by decide +kernel
theorem dL_holds_647 : decode cL_holds 647 = .ok (.if_icmp .ne 10, 3) := by decide +kernel
theorem dL_holds_650 : decode cL_holds 650 = .ok (.iconst 1, 1) := by decide +kernel
theorem dL_holds_651 : decode cL_holds 651 = .ok (.iload 14, 2) := by decide +kernel
theorem dL_holds_653 : decode cL_holds 653 = .ok (.ishl, 1) := by decide +kernel
theorem dL_holds_654 : decode cL_holds 654 = .ok (.goto 4, 3) := by decide +kernel
theorem dL_holds_657 : decode cL_holds 657 = .ok (.iconst 0, 1) := by decide +kernel
