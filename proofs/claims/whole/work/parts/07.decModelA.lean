theorem d_Model_init_0 : decode b_Model_init 0 = .ok (.aload_n 0, 1) := by decide +kernel
theorem d_Model_init_1 : decode b_Model_init 1 = .ok (.invokespecial 1, 3) := by decide +kernel
theorem d_Model_init_4 : decode b_Model_init 4 = .ok (.aload_n 0, 1) := by decide +kernel
theorem d_Model_init_5 : decode b_Model_init 5 = .ok (.bipush 64, 2) := by decide +kernel
theorem d_Model_init_7 : decode b_Model_init 7 = .ok (.newarray .int, 2) := by decide +kernel
theorem d_Model_init_9 : decode b_Model_init 9 = .ok (.putfield 7, 3) := by decide +kernel
theorem d_Model_init_12 : decode b_Model_init 12 = .ok (.aload_n 0, 1) := by decide +kernel
theorem d_Model_init_13 : decode b_Model_init 13 = .ok (.bipush 8, 2) := by decide +kernel
theorem d_Model_init_15 : decode b_Model_init 15 = .ok (.newarray .int, 2) := by decide +kernel
theorem d_Model_init_17 : decode b_Model_init 17 = .ok (.putfield 13, 3) := by decide +kernel
theorem d_Model_init_20 : decode b_Model_init 20 = .ok (.aload_n 0, 1) := by decide +kernel
theorem d_Model_init_21 : decode b_Model_init 21 = .ok (.sipush 150, 3) := by decide +kernel
theorem d_Model_init_24 : decode b_Model_init 24 = .ok (.newarray .byte, 2) := by decide +kernel
theorem d_Model_init_26 : decode b_Model_init 26 = .ok (.putfield 16, 3) := by decide +kernel
theorem d_Model_init_29 : decode b_Model_init 29 = .ok (.aload_n 0, 1) := by decide +kernel
theorem d_Model_init_30 : decode b_Model_init 30 = .ok (.bipush 84, 2) := by decide +kernel
theorem d_Model_init_32 : decode b_Model_init 32 = .ok (.newarray .byte, 2) := by decide +kernel
theorem d_Model_init_34 : decode b_Model_init 34 = .ok (.putfield 20, 3) := by decide +kernel
theorem d_Model_init_37 : decode b_Model_init 37 = .ok (.aload_n 0, 1) := by decide +kernel
theorem d_Model_init_38 : decode b_Model_init 38 = .ok (.bipush 32, 2) := by decide +kernel
theorem d_Model_init_40 : decode b_Model_init 40 = .ok (.newarray .byte, 2) := by decide +kernel
theorem d_Model_init_42 : decode b_Model_init 42 = .ok (.putfield 23, 3) := by decide +kernel
theorem d_Model_init_45 : decode b_Model_init 45 = .ok (.aload_n 0, 1) := by decide +kernel
theorem d_Model_init_46 : decode b_Model_init 46 = .ok (.sipush 128, 3) := by decide +kernel
theorem d_Model_init_49 : decode b_Model_init 49 = .ok (.newarray .byte, 2) := by decide +kernel
theorem d_Model_init_51 : decode b_Model_init 51 = .ok (.putfield 26, 3) := by decide +kernel
theorem d_Model_init_54 : decode b_Model_init 54 = .ok (.aload_n 0, 1) := by decide +kernel
theorem d_Model_init_55 : decode b_Model_init 55 = .ok (.sipush 320, 3) := by decide +kernel
theorem d_Model_init_58 : decode b_Model_init 58 = .ok (.newarray .byte, 2) := by decide +kernel
theorem d_Model_init_60 : decode b_Model_init 60 = .ok (.putfield 29, 3) := by decide +kernel
theorem d_Model_init_63 : decode b_Model_init 63 = .ok (.aload_n 0, 1) := by decide +kernel
theorem d_Model_init_64 : decode b_Model_init 64 = .ok (.bipush 32, 2) := by decide +kernel
theorem d_Model_init_66 : decode b_Model_init 66 = .ok (.newarray .byte, 2) := by decide +kernel
theorem d_Model_init_68 : decode b_Model_init 68 = .ok (.putfield 32, 3) := by decide +kernel
theorem d_Model_init_71 : decode b_Model_init 71 = .ok (.aload_n 0, 1) := by decide +kernel
theorem d_Model_init_72 : decode b_Model_init 72 = .ok (.bipush 8, 2) := by decide +kernel
theorem d_Model_init_74 : decode b_Model_init 74 = .ok (.newarray .int, 2) := by decide +kernel
theorem d_Model_init_76 : decode b_Model_init 76 = .ok (.putfield 35, 3) := by decide +kernel
theorem d_Model_init_79 : decode b_Model_init 79 = .ok (.aload_n 0, 1) := by decide +kernel
theorem d_Model_init_80 : decode b_Model_init 80 = .ok (.bipush 8, 2) := by decide +kernel
theorem d_Model_init_82 : decode b_Model_init 82 = .ok (.newarray .int, 2) := by decide +kernel
theorem d_Model_init_84 : decode b_Model_init 84 = .ok (.putfield 38, 3) := by decide +kernel
theorem d_Model_init_87 : decode b_Model_init 87 = .ok (.aload_n 0, 1) := by decide +kernel
theorem d_Model_init_88 : decode b_Model_init 88 = .ok (.bipush 64, 2) := by decide +kernel
theorem d_Model_init_90 : decode b_Model_init 90 = .ok (.newarray .int, 2) := by decide +kernel
theorem d_Model_init_92 : decode b_Model_init 92 = .ok (.putfield 41, 3) := by decide +kernel
theorem d_Model_init_95 : decode b_Model_init 95 = .ok (.aload_n 0, 1) := by decide +kernel
theorem d_Model_init_96 : decode b_Model_init 96 = .ok (.bipush 64, 2) := by decide +kernel
theorem d_Model_init_98 : decode b_Model_init 98 = .ok (.newarray .byte, 2) := by decide +kernel
theorem d_Model_init_100 : decode b_Model_init 100 = .ok (.putfield 44, 3) := by decide +kernel
theorem d_Model_init_103 : decode b_Model_init 103 = .ok (.iconst 0, 1) := by decide +kernel
theorem d_Model_init_104 : decode b_Model_init 104 = .ok (.istore_n 1, 1) := by decide +kernel
theorem d_Model_init_105 : decode b_Model_init 105 = .ok (.iconst 2, 1) := by decide +kernel
theorem d_Model_init_106 : decode b_Model_init 106 = .ok (.istore_n 2, 1) := by decide +kernel
theorem d_Model_init_107 : decode b_Model_init 107 = .ok (.iload_n 1, 1) := by decide +kernel
theorem d_Model_init_108 : decode b_Model_init 108 = .ok (.bipush 64, 2) := by decide +kernel
theorem d_Model_init_110 : decode b_Model_init 110 = .ok (.if_icmp .ge 78, 3) := by decide +kernel
theorem d_Model_init_113 : decode b_Model_init 113 = .ok (.iconst 1, 1) := by decide +kernel
theorem d_Model_init_114 : decode b_Model_init 114 = .ok (.istore_n 3, 1) := by decide +kernel
theorem d_Model_init_115 : decode b_Model_init 115 = .ok (.iconst 2, 1) := by decide +kernel
theorem d_Model_init_116 : decode b_Model_init 116 = .ok (.istore 4, 2) := by decide +kernel
theorem d_Model_init_118 : decode b_Model_init 118 = .ok (.iload 4, 2) := by decide +kernel
theorem d_Model_init_120 : decode b_Model_init 120 = .ok (.iload_n 2, 1) := by decide +kernel
theorem d_Model_init_121 : decode b_Model_init 121 = .ok (.if_icmp .ge 26, 3) := by decide +kernel
theorem d_Model_init_124 : decode b_Model_init 124 = .ok (.iload_n 3, 1) := by decide +kernel
theorem d_Model_init_125 : decode b_Model_init 125 = .ok (.ifCond .eq 14, 3) := by decide +kernel
theorem d_Model_init_128 : decode b_Model_init 128 = .ok (.iload_n 2, 1) := by decide +kernel
theorem d_Model_init_129 : decode b_Model_init 129 = .ok (.iload 4, 2) := by decide +kernel
theorem d_Model_init_131 : decode b_Model_init 131 = .ok (.irem, 1) := by decide +kernel
theorem d_Model_init_132 : decode b_Model_init 132 = .ok (.ifCond .eq 7, 3) := by decide +kernel
theorem d_Model_init_135 : decode b_Model_init 135 = .ok (.iconst 1, 1) := by decide +kernel
theorem d_Model_init_136 : decode b_Model_init 136 = .ok (.goto 4, 3) := by decide +kernel
theorem d_Model_init_139 : decode b_Model_init 139 = .ok (.iconst 0, 1) := by decide +kernel
theorem d_Model_init_140 : decode b_Model_init 140 = .ok (.istore_n 3, 1) := by decide +kernel
theorem d_Model_init_141 : decode b_Model_init 141 = .ok (.iinc 4 1, 3) := by decide +kernel
theorem d_Model_init_144 : decode b_Model_init 144 = .ok (.goto (-26), 3) := by decide +kernel
theorem d_Model_init_147 : decode b_Model_init 147 = .ok (.iload_n 3, 1) := by decide +kernel
theorem d_Model_init_148 : decode b_Model_init 148 = .ok (.ifCond .eq 34, 3) := by decide +kernel
theorem d_Model_init_151 : decode b_Model_init 151 = .ok (.aload_n 0, 1) := by decide +kernel
theorem d_Model_init_152 : decode b_Model_init 152 = .ok (.getfield 7, 3) := by decide +kernel
theorem d_Model_init_155 : decode b_Model_init 155 = .ok (.iload_n 1, 1) := by decide +kernel
theorem d_Model_init_156 : decode b_Model_init 156 = .ok (.iload_n 2, 1) := by decide +kernel
theorem d_Model_init_157 : decode b_Model_init 157 = .ok (.iconst 1, 1) := by decide +kernel
theorem d_Model_init_158 : decode b_Model_init 158 = .ok (.invokestatic 47, 3) := by decide +kernel
theorem d_Model_init_161 : decode b_Model_init 161 = .ok (.iastore, 1) := by decide +kernel
theorem d_Model_init_162 : decode b_Model_init 162 = .ok (.iload_n 1, 1) := by decide +kernel
theorem d_Model_init_163 : decode b_Model_init 163 = .ok (.bipush 8, 2) := by decide +kernel
theorem d_Model_init_165 : decode b_Model_init 165 = .ok (.if_icmp .ge 14, 3) := by decide +kernel
theorem d_Model_init_168 : decode b_Model_init 168 = .ok (.aload_n 0, 1) := by decide +kernel
theorem d_Model_init_169 : decode b_Model_init 169 = .ok (.getfield 13, 3) := by decide +kernel
theorem d_Model_init_172 : decode b_Model_init 172 = .ok (.iload_n 1, 1) := by decide +kernel
theorem d_Model_init_173 : decode b_Model_init 173 = .ok (.iload_n 2, 1) := by decide +kernel
theorem d_Model_init_174 : decode b_Model_init 174 = .ok (.iconst 0, 1) := by decide +kernel
theorem d_Model_init_175 : decode b_Model_init 175 = .ok (.invokestatic 47, 3) := by decide +kernel
theorem d_Model_init_178 : decode b_Model_init 178 = .ok (.iastore, 1) := by decide +kernel
theorem d_Model_init_179 : decode b_Model_init 179 = .ok (.iinc 1 1, 3) := by decide +kernel
theorem d_Model_init_182 : decode b_Model_init 182 = .ok (.iinc 2 1, 3) := by decide +kernel
theorem d_Model_init_185 : decode b_Model_init 185 = .ok (.goto (-78), 3) := by decide +kernel
theorem d_Model_init_188 : decode b_Model_init 188 = .ok (.return_, 1) := by decide +kernel
theorem d_Model_isAtMost_0 : decode b_Model_isAtMost 0 = .ok (.lload_n 0, 1) := by decide +kernel
theorem d_Model_isAtMost_1 : decode b_Model_isAtMost 1 = .ok (.bipush 18, 2) := by decide +kernel
theorem d_Model_isAtMost_3 : decode b_Model_isAtMost 3 = .ok (.lshr, 1) := by decide +kernel
theorem d_Model_isAtMost_4 : decode b_Model_isAtMost 4 = .ok (.lstore 4, 2) := by decide +kernel
theorem d_Model_isAtMost_6 : decode b_Model_isAtMost 6 = .ok (.lload_n 0, 1) := by decide +kernel
theorem d_Model_isAtMost_7 : decode b_Model_isAtMost 7 = .ok (.ldc2_w 51, 3) := by decide +kernel
theorem d_Model_isAtMost_10 : decode b_Model_isAtMost 10 = .ok (.land, 1) := by decide +kernel
theorem d_Model_isAtMost_11 : decode b_Model_isAtMost 11 = .ok (.lstore 6, 2) := by decide +kernel
theorem d_Model_isAtMost_13 : decode b_Model_isAtMost 13 = .ok (.lload 6, 2) := by decide +kernel
theorem d_Model_isAtMost_15 : decode b_Model_isAtMost 15 = .ok (.lload 6, 2) := by decide +kernel
theorem d_Model_isAtMost_17 : decode b_Model_isAtMost 17 = .ok (.lmul, 1) := by decide +kernel
theorem d_Model_isAtMost_18 : decode b_Model_isAtMost 18 = .ok (.lstore 8, 2) := by decide +kernel
theorem d_Model_isAtMost_20 : decode b_Model_isAtMost 20 = .ok (.ldc2_w 53, 3) := by decide +kernel
theorem d_Model_isAtMost_23 : decode b_Model_isAtMost 23 = .ok (.lload 4, 2) := by decide +kernel
theorem d_Model_isAtMost_25 : decode b_Model_isAtMost 25 = .ok (.lmul, 1) := by decide +kernel
theorem d_Model_isAtMost_26 : decode b_Model_isAtMost 26 = .ok (.lload 6, 2) := by decide +kernel
theorem d_Model_isAtMost_28 : decode b_Model_isAtMost 28 = .ok (.lmul, 1) := by decide +kernel
theorem d_Model_isAtMost_29 : decode b_Model_isAtMost 29 = .ok (.lload 8, 2) := by decide +kernel
theorem d_Model_isAtMost_31 : decode b_Model_isAtMost 31 = .ok (.bipush 18, 2) := by decide +kernel
theorem d_Model_isAtMost_33 : decode b_Model_isAtMost 33 = .ok (.lshr, 1) := by decide +kernel
theorem d_Model_isAtMost_34 : decode b_Model_isAtMost 34 = .ok (.ladd, 1) := by decide +kernel
theorem d_Model_isAtMost_35 : decode b_Model_isAtMost 35 = .ok (.lstore 10, 2) := by decide +kernel
theorem d_Model_isAtMost_37 : decode b_Model_isAtMost 37 = .ok (.lload 8, 2) := by decide +kernel
theorem d_Model_isAtMost_39 : decode b_Model_isAtMost 39 = .ok (.ldc2_w 51, 3) := by decide +kernel
theorem d_Model_isAtMost_42 : decode b_Model_isAtMost 42 = .ok (.land, 1) := by decide +kernel
theorem d_Model_isAtMost_43 : decode b_Model_isAtMost 43 = .ok (.lstore 8, 2) := by decide +kernel
theorem d_Model_isAtMost_45 : decode b_Model_isAtMost 45 = .ok (.lload 4, 2) := by decide +kernel
theorem d_Model_isAtMost_47 : decode b_Model_isAtMost 47 = .ok (.lload 4, 2) := by decide +kernel
theorem d_Model_isAtMost_49 : decode b_Model_isAtMost 49 = .ok (.lmul, 1) := by decide +kernel
theorem d_Model_isAtMost_50 : decode b_Model_isAtMost 50 = .ok (.lload 10, 2) := by decide +kernel
theorem d_Model_isAtMost_52 : decode b_Model_isAtMost 52 = .ok (.bipush 18, 2) := by decide +kernel
theorem d_Model_isAtMost_54 : decode b_Model_isAtMost 54 = .ok (.lshr, 1) := by decide +kernel
theorem d_Model_isAtMost_55 : decode b_Model_isAtMost 55 = .ok (.ladd, 1) := by decide +kernel
theorem d_Model_isAtMost_56 : decode b_Model_isAtMost 56 = .ok (.lstore 12, 2) := by decide +kernel
theorem d_Model_isAtMost_58 : decode b_Model_isAtMost 58 = .ok (.lload 10, 2) := by decide +kernel
theorem d_Model_isAtMost_60 : decode b_Model_isAtMost 60 = .ok (.ldc2_w 51, 3) := by decide +kernel
theorem d_Model_isAtMost_63 : decode b_Model_isAtMost 63 = .ok (.land, 1) := by decide +kernel
theorem d_Model_isAtMost_64 : decode b_Model_isAtMost 64 = .ok (.lstore 10, 2) := by decide +kernel
theorem d_Model_isAtMost_66 : decode b_Model_isAtMost 66 = .ok (.iload_n 3, 1) := by decide +kernel
theorem d_Model_isAtMost_67 : decode b_Model_isAtMost 67 = .ok (.ifCond .ne 41, 3) := by decide +kernel
theorem d_Model_isAtMost_70 : decode b_Model_isAtMost 70 = .ok (.lload 12, 2) := by decide +kernel
theorem d_Model_isAtMost_72 : decode b_Model_isAtMost 72 = .ok (.iload_n 2, 1) := by decide +kernel
theorem d_Model_isAtMost_73 : decode b_Model_isAtMost 73 = .ok (.i2l, 1) := by decide +kernel
theorem d_Model_isAtMost_74 : decode b_Model_isAtMost 74 = .ok (.bipush 28, 2) := by decide +kernel
theorem d_Model_isAtMost_76 : decode b_Model_isAtMost 76 = .ok (.lshl, 1) := by decide +kernel
theorem d_Model_isAtMost_77 : decode b_Model_isAtMost 77 = .ok (.lcmp, 1) := by decide +kernel
theorem d_Model_isAtMost_78 : decode b_Model_isAtMost 78 = .ok (.ifCond .lt 24, 3) := by decide +kernel
theorem d_Model_isAtMost_81 : decode b_Model_isAtMost 81 = .ok (.lload 12, 2) := by decide +kernel
theorem d_Model_isAtMost_83 : decode b_Model_isAtMost 83 = .ok (.iload_n 2, 1) := by decide +kernel
theorem d_Model_isAtMost_84 : decode b_Model_isAtMost 84 = .ok (.i2l, 1) := by decide +kernel
theorem d_Model_isAtMost_85 : decode b_Model_isAtMost 85 = .ok (.bipush 28, 2) := by decide +kernel
theorem d_Model_isAtMost_87 : decode b_Model_isAtMost 87 = .ok (.lshl, 1) := by decide +kernel
theorem d_Model_isAtMost_88 : decode b_Model_isAtMost 88 = .ok (.lcmp, 1) := by decide +kernel
theorem d_Model_isAtMost_89 : decode b_Model_isAtMost 89 = .ok (.ifCond .ne 17, 3) := by decide +kernel
theorem d_Model_isAtMost_92 : decode b_Model_isAtMost 92 = .ok (.lload 10, 2) := by decide +kernel
theorem d_Model_isAtMost_94 : decode b_Model_isAtMost 94 = .ok (.lload 8, 2) := by decide +kernel
theorem d_Model_isAtMost_96 : decode b_Model_isAtMost 96 = .ok (.ladd, 1) := by decide +kernel
theorem d_Model_isAtMost_97 : decode b_Model_isAtMost 97 = .ok (.lconst 0, 1) := by decide +kernel
theorem d_Model_isAtMost_98 : decode b_Model_isAtMost 98 = .ok (.lcmp, 1) := by decide +kernel
theorem d_Model_isAtMost_99 : decode b_Model_isAtMost 99 = .ok (.ifCond .ne 7, 3) := by decide +kernel
theorem d_Model_isAtMost_102 : decode b_Model_isAtMost 102 = .ok (.iconst 1, 1) := by decide +kernel
theorem d_Model_isAtMost_103 : decode b_Model_isAtMost 103 = .ok (.goto 4, 3) := by decide +kernel
theorem d_Model_isAtMost_106 : decode b_Model_isAtMost 106 = .ok (.iconst 0, 1) := by decide +kernel
theorem d_Model_isAtMost_107 : decode b_Model_isAtMost 107 = .ok (.ireturn, 1) := by decide +kernel
theorem d_Model_isAtMost_108 : decode b_Model_isAtMost 108 = .ok (.lload 8, 2) := by decide +kernel
theorem d_Model_isAtMost_110 : decode b_Model_isAtMost 110 = .ok (.lload 6, 2) := by decide +kernel
theorem d_Model_isAtMost_112 : decode b_Model_isAtMost 112 = .ok (.lmul, 1) := by decide +kernel
theorem d_Model_isAtMost_113 : decode b_Model_isAtMost 113 = .ok (.lstore 14, 2) := by decide +kernel
theorem d_Model_isAtMost_115 : decode b_Model_isAtMost 115 = .ok (.lload 8, 2) := by decide +kernel
theorem d_Model_isAtMost_117 : decode b_Model_isAtMost 117 = .ok (.lload 4, 2) := by decide +kernel
theorem d_Model_isAtMost_119 : decode b_Model_isAtMost 119 = .ok (.lmul, 1) := by decide +kernel
theorem d_Model_isAtMost_120 : decode b_Model_isAtMost 120 = .ok (.lload 10, 2) := by decide +kernel
theorem d_Model_isAtMost_122 : decode b_Model_isAtMost 122 = .ok (.lload 6, 2) := by decide +kernel
theorem d_Model_isAtMost_124 : decode b_Model_isAtMost 124 = .ok (.lmul, 1) := by decide +kernel
theorem d_Model_isAtMost_125 : decode b_Model_isAtMost 125 = .ok (.ladd, 1) := by decide +kernel
theorem d_Model_isAtMost_126 : decode b_Model_isAtMost 126 = .ok (.lload 14, 2) := by decide +kernel
theorem d_Model_isAtMost_128 : decode b_Model_isAtMost 128 = .ok (.bipush 18, 2) := by decide +kernel
theorem d_Model_isAtMost_130 : decode b_Model_isAtMost 130 = .ok (.lshr, 1) := by decide +kernel
theorem d_Model_isAtMost_131 : decode b_Model_isAtMost 131 = .ok (.ladd, 1) := by decide +kernel
theorem d_Model_isAtMost_132 : decode b_Model_isAtMost 132 = .ok (.lstore 16, 2) := by decide +kernel
theorem d_Model_isAtMost_134 : decode b_Model_isAtMost 134 = .ok (.lload 10, 2) := by decide +kernel
theorem d_Model_isAtMost_136 : decode b_Model_isAtMost 136 = .ok (.lload 4, 2) := by decide +kernel
theorem d_Model_isAtMost_138 : decode b_Model_isAtMost 138 = .ok (.lmul, 1) := by decide +kernel
theorem d_Model_isAtMost_139 : decode b_Model_isAtMost 139 = .ok (.lload 12, 2) := by decide +kernel
theorem d_Model_isAtMost_141 : decode b_Model_isAtMost 141 = .ok (.lload 6, 2) := by decide +kernel
theorem d_Model_isAtMost_143 : decode b_Model_isAtMost 143 = .ok (.lmul, 1) := by decide +kernel
theorem d_Model_isAtMost_144 : decode b_Model_isAtMost 144 = .ok (.ladd, 1) := by decide +kernel
theorem d_Model_isAtMost_145 : decode b_Model_isAtMost 145 = .ok (.lload 16, 2) := by decide +kernel
theorem d_Model_isAtMost_147 : decode b_Model_isAtMost 147 = .ok (.bipush 18, 2) := by decide +kernel
theorem d_Model_isAtMost_149 : decode b_Model_isAtMost 149 = .ok (.lshr, 1) := by decide +kernel
theorem d_Model_isAtMost_150 : decode b_Model_isAtMost 150 = .ok (.ladd, 1) := by decide +kernel
theorem d_Model_isAtMost_151 : decode b_Model_isAtMost 151 = .ok (.lstore 18, 2) := by decide +kernel
theorem d_Model_isAtMost_153 : decode b_Model_isAtMost 153 = .ok (.lload 12, 2) := by decide +kernel
theorem d_Model_isAtMost_155 : decode b_Model_isAtMost 155 = .ok (.lload 4, 2) := by decide +kernel
theorem d_Model_isAtMost_157 : decode b_Model_isAtMost 157 = .ok (.lmul, 1) := by decide +kernel
theorem d_Model_isAtMost_158 : decode b_Model_isAtMost 158 = .ok (.lload 18, 2) := by decide +kernel
theorem d_Model_isAtMost_160 : decode b_Model_isAtMost 160 = .ok (.bipush 18, 2) := by decide +kernel
theorem d_Model_isAtMost_162 : decode b_Model_isAtMost 162 = .ok (.lshr, 1) := by decide +kernel
theorem d_Model_isAtMost_163 : decode b_Model_isAtMost 163 = .ok (.ladd, 1) := by decide +kernel
theorem d_Model_isAtMost_164 : decode b_Model_isAtMost 164 = .ok (.lstore 20, 2) := by decide +kernel
theorem d_Model_isAtMost_166 : decode b_Model_isAtMost 166 = .ok (.lload 14, 2) := by decide +kernel
theorem d_Model_isAtMost_168 : decode b_Model_isAtMost 168 = .ok (.ldc2_w 51, 3) := by decide +kernel
theorem d_Model_isAtMost_171 : decode b_Model_isAtMost 171 = .ok (.land, 1) := by decide +kernel
theorem d_Model_isAtMost_172 : decode b_Model_isAtMost 172 = .ok (.lload 16, 2) := by decide +kernel
theorem d_Model_isAtMost_174 : decode b_Model_isAtMost 174 = .ok (.ldc2_w 51, 3) := by decide +kernel
theorem d_Model_isAtMost_177 : decode b_Model_isAtMost 177 = .ok (.land, 1) := by decide +kernel
theorem d_Model_isAtMost_178 : decode b_Model_isAtMost 178 = .ok (.ladd, 1) := by decide +kernel
theorem d_Model_isAtMost_179 : decode b_Model_isAtMost 179 = .ok (.lload 18, 2) := by decide +kernel
theorem d_Model_isAtMost_181 : decode b_Model_isAtMost 181 = .ok (.ldc2_w 51, 3) := by decide +kernel
theorem d_Model_isAtMost_184 : decode b_Model_isAtMost 184 = .ok (.land, 1) := by decide +kernel
theorem d_Model_isAtMost_185 : decode b_Model_isAtMost 185 = .ok (.ladd, 1) := by decide +kernel
theorem d_Model_isAtMost_186 : decode b_Model_isAtMost 186 = .ok (.lstore 22, 2) := by decide +kernel
theorem d_Model_isAtMost_188 : decode b_Model_isAtMost 188 = .ok (.lload 20, 2) := by decide +kernel
theorem d_Model_isAtMost_190 : decode b_Model_isAtMost 190 = .ok (.iload_n 2, 1) := by decide +kernel
theorem d_Model_isAtMost_191 : decode b_Model_isAtMost 191 = .ok (.i2l, 1) := by decide +kernel
theorem d_Model_isAtMost_192 : decode b_Model_isAtMost 192 = .ok (.bipush 42, 2) := by decide +kernel
theorem d_Model_isAtMost_194 : decode b_Model_isAtMost 194 = .ok (.lshl, 1) := by decide +kernel
theorem d_Model_isAtMost_195 : decode b_Model_isAtMost 195 = .ok (.lcmp, 1) := by decide +kernel
theorem d_Model_isAtMost_196 : decode b_Model_isAtMost 196 = .ok (.ifCond .lt 21, 3) := by decide +kernel
theorem d_Model_isAtMost_199 : decode b_Model_isAtMost 199 = .ok (.lload 20, 2) := by decide +kernel
theorem d_Model_isAtMost_201 : decode b_Model_isAtMost 201 = .ok (.iload_n 2, 1) := by decide +kernel
theorem d_Model_isAtMost_202 : decode b_Model_isAtMost 202 = .ok (.i2l, 1) := by decide +kernel
theorem d_Model_isAtMost_203 : decode b_Model_isAtMost 203 = .ok (.bipush 42, 2) := by decide +kernel
theorem d_Model_isAtMost_205 : decode b_Model_isAtMost 205 = .ok (.lshl, 1) := by decide +kernel
theorem d_Model_isAtMost_206 : decode b_Model_isAtMost 206 = .ok (.lcmp, 1) := by decide +kernel
theorem d_Model_isAtMost_207 : decode b_Model_isAtMost 207 = .ok (.ifCond .ne 14, 3) := by decide +kernel
theorem d_Model_isAtMost_210 : decode b_Model_isAtMost 210 = .ok (.lload 22, 2) := by decide +kernel
theorem d_Model_isAtMost_212 : decode b_Model_isAtMost 212 = .ok (.lconst 0, 1) := by decide +kernel
theorem d_Model_isAtMost_213 : decode b_Model_isAtMost 213 = .ok (.lcmp, 1) := by decide +kernel
theorem d_Model_isAtMost_214 : decode b_Model_isAtMost 214 = .ok (.ifCond .ne 7, 3) := by decide +kernel
theorem d_Model_isAtMost_217 : decode b_Model_isAtMost 217 = .ok (.iconst 1, 1) := by decide +kernel
theorem d_Model_isAtMost_218 : decode b_Model_isAtMost 218 = .ok (.goto 4, 3) := by decide +kernel
theorem d_Model_isAtMost_221 : decode b_Model_isAtMost 221 = .ok (.iconst 0, 1) := by decide +kernel
theorem d_Model_isAtMost_222 : decode b_Model_isAtMost 222 = .ok (.ireturn, 1) := by decide +kernel
theorem d_Model_root_0 : decode b_Model_root 0 = .ok (.lconst 0, 1) := by decide +kernel
theorem d_Model_root_1 : decode b_Model_root 1 = .ok (.lstore_n 2, 1) := by decide +kernel
theorem d_Model_root_2 : decode b_Model_root 2 = .ok (.ldc2_w 55, 3) := by decide +kernel
theorem d_Model_root_5 : decode b_Model_root 5 = .ok (.lstore 4, 2) := by decide +kernel
theorem d_Model_root_7 : decode b_Model_root 7 = .ok (.lload 4, 2) := by decide +kernel
theorem d_Model_root_9 : decode b_Model_root 9 = .ok (.lload_n 2, 1) := by decide +kernel
theorem d_Model_root_10 : decode b_Model_root 10 = .ok (.lsub, 1) := by decide +kernel
theorem d_Model_root_11 : decode b_Model_root 11 = .ok (.lconst 1, 1) := by decide +kernel
theorem d_Model_root_12 : decode b_Model_root 12 = .ok (.lcmp, 1) := by decide +kernel
theorem d_Model_root_13 : decode b_Model_root 13 = .ok (.ifCond .le 36, 3) := by decide +kernel
theorem d_Model_root_16 : decode b_Model_root 16 = .ok (.lload_n 2, 1) := by decide +kernel
theorem d_Model_root_17 : decode b_Model_root 17 = .ok (.lload 4, 2) := by decide +kernel
theorem d_Model_root_19 : decode b_Model_root 19 = .ok (.ladd, 1) := by decide +kernel
theorem d_Model_root_20 : decode b_Model_root 20 = .ok (.ldc2_w 53, 3) := by decide +kernel
theorem d_Model_root_23 : decode b_Model_root 23 = .ok (.ldiv, 1) := by decide +kernel
theorem d_Model_root_24 : decode b_Model_root 24 = .ok (.lstore 6, 2) := by decide +kernel
theorem d_Model_root_26 : decode b_Model_root 26 = .ok (.lload 6, 2) := by decide +kernel
theorem d_Model_root_28 : decode b_Model_root 28 = .ok (.iload_n 0, 1) := by decide +kernel
theorem d_Model_root_29 : decode b_Model_root 29 = .ok (.iload_n 1, 1) := by decide +kernel
theorem d_Model_root_30 : decode b_Model_root 30 = .ok (.invokestatic 57, 3) := by decide +kernel
theorem d_Model_root_33 : decode b_Model_root 33 = .ok (.ifCond .eq 9, 3) := by decide +kernel
theorem d_Model_root_36 : decode b_Model_root 36 = .ok (.lload 6, 2) := by decide +kernel
theorem d_Model_root_38 : decode b_Model_root 38 = .ok (.lstore_n 2, 1) := by decide +kernel
theorem d_Model_root_39 : decode b_Model_root 39 = .ok (.goto 7, 3) := by decide +kernel
theorem d_Model_root_42 : decode b_Model_root 42 = .ok (.lload 6, 2) := by decide +kernel
theorem d_Model_root_44 : decode b_Model_root 44 = .ok (.lstore 4, 2) := by decide +kernel
theorem d_Model_root_46 : decode b_Model_root 46 = .ok (.goto (-39), 3) := by decide +kernel
theorem d_Model_root_49 : decode b_Model_root 49 = .ok (.lload_n 2, 1) := by decide +kernel
theorem d_Model_root_50 : decode b_Model_root 50 = .ok (.l2i, 1) := by decide +kernel
theorem d_Model_root_51 : decode b_Model_root 51 = .ok (.ireturn, 1) := by decide +kernel
theorem d_Model_word_0 : decode b_Model_word 0 = .ok (.iload_n 1, 1) := by decide +kernel
theorem d_Model_word_1 : decode b_Model_word 1 = .ok (.ifCond .ne 22, 3) := by decide +kernel
theorem d_Model_word_4 : decode b_Model_word 4 = .ok (.iload_n 2, 1) := by decide +kernel
theorem d_Model_word_5 : decode b_Model_word 5 = .ok (.ifCond .lt 18, 3) := by decide +kernel
theorem d_Model_word_8 : decode b_Model_word 8 = .ok (.iload_n 2, 1) := by decide +kernel
theorem d_Model_word_9 : decode b_Model_word 9 = .ok (.bipush 64, 2) := by decide +kernel
theorem d_Model_word_11 : decode b_Model_word 11 = .ok (.if_icmp .ge 12, 3) := by decide +kernel
theorem d_Model_word_14 : decode b_Model_word 14 = .ok (.aload_n 0, 1) := by decide +kernel
theorem d_Model_word_15 : decode b_Model_word 15 = .ok (.getfield 7, 3) := by decide +kernel
theorem d_Model_word_18 : decode b_Model_word 18 = .ok (.iload_n 2, 1) := by decide +kernel
theorem d_Model_word_19 : decode b_Model_word 19 = .ok (.iaload, 1) := by decide +kernel
theorem d_Model_word_20 : decode b_Model_word 20 = .ok (.goto 28, 3) := by decide +kernel
theorem d_Model_word_23 : decode b_Model_word 23 = .ok (.iload_n 1, 1) := by decide +kernel
theorem d_Model_word_24 : decode b_Model_word 24 = .ok (.iconst 1, 1) := by decide +kernel
theorem d_Model_word_25 : decode b_Model_word 25 = .ok (.if_icmp .ne 22, 3) := by decide +kernel
theorem d_Model_word_28 : decode b_Model_word 28 = .ok (.iload_n 2, 1) := by decide +kernel
theorem d_Model_word_29 : decode b_Model_word 29 = .ok (.ifCond .lt 18, 3) := by decide +kernel
theorem d_Model_word_32 : decode b_Model_word 32 = .ok (.iload_n 2, 1) := by decide +kernel
theorem d_Model_word_33 : decode b_Model_word 33 = .ok (.bipush 8, 2) := by decide +kernel
theorem d_Model_word_35 : decode b_Model_word 35 = .ok (.if_icmp .ge 12, 3) := by decide +kernel
theorem d_Model_word_38 : decode b_Model_word 38 = .ok (.aload_n 0, 1) := by decide +kernel
theorem d_Model_word_39 : decode b_Model_word 39 = .ok (.getfield 13, 3) := by decide +kernel
theorem d_Model_word_42 : decode b_Model_word 42 = .ok (.iload_n 2, 1) := by decide +kernel
theorem d_Model_word_43 : decode b_Model_word 43 = .ok (.iaload, 1) := by decide +kernel
theorem d_Model_word_44 : decode b_Model_word 44 = .ok (.goto 4, 3) := by decide +kernel
theorem d_Model_word_47 : decode b_Model_word 47 = .ok (.iconst 0, 1) := by decide +kernel
theorem d_Model_word_48 : decode b_Model_word 48 = .ok (.ireturn, 1) := by decide +kernel
theorem d_Model_rot_0 : decode b_Model_rot 0 = .ok (.iload_n 0, 1) := by decide +kernel
theorem d_Model_rot_1 : decode b_Model_rot 1 = .ok (.iload_n 1, 1) := by decide +kernel
theorem d_Model_rot_2 : decode b_Model_rot 2 = .ok (.iushr, 1) := by decide +kernel
theorem d_Model_rot_3 : decode b_Model_rot 3 = .ok (.iload_n 0, 1) := by decide +kernel
theorem d_Model_rot_4 : decode b_Model_rot 4 = .ok (.bipush 32, 2) := by decide +kernel
theorem d_Model_rot_6 : decode b_Model_rot 6 = .ok (.iload_n 1, 1) := by decide +kernel
theorem d_Model_rot_7 : decode b_Model_rot 7 = .ok (.isub, 1) := by decide +kernel
theorem d_Model_rot_8 : decode b_Model_rot 8 = .ok (.ishl, 1) := by decide +kernel
theorem d_Model_rot_9 : decode b_Model_rot 9 = .ok (.ior, 1) := by decide +kernel
theorem d_Model_rot_10 : decode b_Model_rot 10 = .ok (.ireturn, 1) := by decide +kernel
theorem d_Model_lay_0 : decode b_Model_lay 0 = .ok (.aload_n 0, 1) := by decide +kernel
theorem d_Model_lay_1 : decode b_Model_lay 1 = .ok (.getfield 29, 3) := by decide +kernel
theorem d_Model_lay_4 : decode b_Model_lay 4 = .ok (.aload_n 0, 1) := by decide +kernel
theorem d_Model_lay_5 : decode b_Model_lay 5 = .ok (.getfield 61, 3) := by decide +kernel
theorem d_Model_lay_8 : decode b_Model_lay 8 = .ok (.iload_n 1, 1) := by decide +kernel
theorem d_Model_lay_9 : decode b_Model_lay 9 = .ok (.i2b, 1) := by decide +kernel
theorem d_Model_lay_10 : decode b_Model_lay 10 = .ok (.bastore, 1) := by decide +kernel
theorem d_Model_lay_11 : decode b_Model_lay 11 = .ok (.aload_n 0, 1) := by decide +kernel
theorem d_Model_lay_12 : decode b_Model_lay 12 = .ok (.dup, 1) := by decide +kernel
theorem d_Model_lay_13 : decode b_Model_lay 13 = .ok (.getfield 61, 3) := by decide +kernel
theorem d_Model_lay_16 : decode b_Model_lay 16 = .ok (.iconst 1, 1) := by decide +kernel
theorem d_Model_lay_17 : decode b_Model_lay 17 = .ok (.iadd, 1) := by decide +kernel
theorem d_Model_lay_18 : decode b_Model_lay 18 = .ok (.putfield 61, 3) := by decide +kernel
theorem d_Model_lay_21 : decode b_Model_lay 21 = .ok (.return_, 1) := by decide +kernel
theorem d_Model_reckon_0 : decode b_Model_reckon 0 = .ok (.bipush 8, 2) := by decide +kernel
theorem d_Model_reckon_2 : decode b_Model_reckon 2 = .ok (.aload_n 0, 1) := by decide +kernel
theorem d_Model_reckon_3 : decode b_Model_reckon 3 = .ok (.getfield 61, 3) := by decide +kernel
theorem d_Model_reckon_6 : decode b_Model_reckon 6 = .ok (.imul, 1) := by decide +kernel
theorem d_Model_reckon_7 : decode b_Model_reckon 7 = .ok (.istore_n 1, 1) := by decide +kernel
theorem d_Model_reckon_8 : decode b_Model_reckon 8 = .ok (.aload_n 0, 1) := by decide +kernel
theorem d_Model_reckon_9 : decode b_Model_reckon 9 = .ok (.sipush 128, 3) := by decide +kernel
theorem d_Model_reckon_12 : decode b_Model_reckon 12 = .ok (.invokevirtual 65, 3) := by decide +kernel
theorem d_Model_reckon_15 : decode b_Model_reckon 15 = .ok (.aload_n 0, 1) := by decide +kernel
theorem d_Model_reckon_16 : decode b_Model_reckon 16 = .ok (.getfield 61, 3) := by decide +kernel
theorem d_Model_reckon_19 : decode b_Model_reckon 19 = .ok (.bipush 64, 2) := by decide +kernel
theorem d_Model_reckon_21 : decode b_Model_reckon 21 = .ok (.irem, 1) := by decide +kernel
theorem d_Model_reckon_22 : decode b_Model_reckon 22 = .ok (.bipush 56, 2) := by decide +kernel
theorem d_Model_reckon_24 : decode b_Model_reckon 24 = .ok (.if_icmp .eq 11, 3) := by decide +kernel
theorem d_Model_reckon_27 : decode b_Model_reckon 27 = .ok (.aload_n 0, 1) := by decide +kernel
theorem d_Model_reckon_28 : decode b_Model_reckon 28 = .ok (.iconst 0, 1) := by decide +kernel
theorem d_Model_reckon_29 : decode b_Model_reckon 29 = .ok (.invokevirtual 65, 3) := by decide +kernel
theorem d_Model_reckon_32 : decode b_Model_reckon 32 = .ok (.goto (-17), 3) := by decide +kernel
theorem d_Model_reckon_35 : decode b_Model_reckon 35 = .ok (.bipush 7, 2) := by decide +kernel
theorem d_Model_reckon_37 : decode b_Model_reckon 37 = .ok (.istore_n 2, 1) := by decide +kernel
theorem d_Model_reckon_38 : decode b_Model_reckon 38 = .ok (.iload_n 2, 1) := by decide +kernel
theorem d_Model_reckon_39 : decode b_Model_reckon 39 = .ok (.ifCond .lt 28, 3) := by decide +kernel
theorem d_Model_reckon_42 : decode b_Model_reckon 42 = .ok (.aload_n 0, 1) := by decide +kernel
theorem d_Model_reckon_43 : decode b_Model_reckon 43 = .ok (.iload_n 2, 1) := by decide +kernel
theorem d_Model_reckon_44 : decode b_Model_reckon 44 = .ok (.iconst 3, 1) := by decide +kernel
theorem d_Model_reckon_45 : decode b_Model_reckon 45 = .ok (.if_icmp .le 7, 3) := by decide +kernel
theorem d_Model_reckon_48 : decode b_Model_reckon 48 = .ok (.iconst 0, 1) := by decide +kernel
theorem d_Model_reckon_49 : decode b_Model_reckon 49 = .ok (.goto 9, 3) := by decide +kernel
theorem d_Model_reckon_52 : decode b_Model_reckon 52 = .ok (.iload_n 1, 1) := by decide +kernel
theorem d_Model_reckon_53 : decode b_Model_reckon 53 = .ok (.bipush 8, 2) := by decide +kernel
theorem d_Model_reckon_55 : decode b_Model_reckon 55 = .ok (.iload_n 2, 1) := by decide +kernel
theorem d_Model_reckon_56 : decode b_Model_reckon 56 = .ok (.imul, 1) := by decide +kernel
theorem d_Model_reckon_57 : decode b_Model_reckon 57 = .ok (.ishr, 1) := by decide +kernel
theorem d_Model_reckon_58 : decode b_Model_reckon 58 = .ok (.invokevirtual 65, 3) := by decide +kernel
theorem d_Model_reckon_61 : decode b_Model_reckon 61 = .ok (.iinc 2 (-1), 3) := by decide +kernel
theorem d_Model_reckon_64 : decode b_Model_reckon 64 = .ok (.goto (-26), 3) := by decide +kernel
theorem d_Model_reckon_67 : decode b_Model_reckon 67 = .ok (.iconst 0, 1) := by decide +kernel
theorem d_Model_reckon_68 : decode b_Model_reckon 68 = .ok (.istore_n 2, 1) := by decide +kernel
theorem d_Model_reckon_69 : decode b_Model_reckon 69 = .ok (.iload_n 2, 1) := by decide +kernel
theorem d_Model_reckon_70 : decode b_Model_reckon 70 = .ok (.bipush 8, 2) := by decide +kernel
theorem d_Model_reckon_72 : decode b_Model_reckon 72 = .ok (.if_icmp .ge 21, 3) := by decide +kernel
theorem d_Model_reckon_75 : decode b_Model_reckon 75 = .ok (.aload_n 0, 1) := by decide +kernel
theorem d_Model_reckon_76 : decode b_Model_reckon 76 = .ok (.getfield 35, 3) := by decide +kernel
theorem d_Model_reckon_79 : decode b_Model_reckon 79 = .ok (.iload_n 2, 1) := by decide +kernel
theorem d_Model_reckon_80 : decode b_Model_reckon 80 = .ok (.aload_n 0, 1) := by decide +kernel
theorem d_Model_reckon_81 : decode b_Model_reckon 81 = .ok (.getfield 13, 3) := by decide +kernel
theorem d_Model_reckon_84 : decode b_Model_reckon 84 = .ok (.iload_n 2, 1) := by decide +kernel
theorem d_Model_reckon_85 : decode b_Model_reckon 85 = .ok (.iaload, 1) := by decide +kernel
theorem d_Model_reckon_86 : decode b_Model_reckon 86 = .ok (.iastore, 1) := by decide +kernel
theorem d_Model_reckon_87 : decode b_Model_reckon 87 = .ok (.iinc 2 1, 3) := by decide +kernel
theorem d_Model_reckon_90 : decode b_Model_reckon 90 = .ok (.goto (-21), 3) := by decide +kernel
theorem d_Model_reckon_93 : decode b_Model_reckon 93 = .ok (.iconst 0, 1) := by decide +kernel
theorem d_Model_reckon_94 : decode b_Model_reckon 94 = .ok (.istore_n 2, 1) := by decide +kernel
theorem d_Model_reckon_95 : decode b_Model_reckon 95 = .ok (.iload_n 2, 1) := by decide +kernel
theorem d_Model_reckon_96 : decode b_Model_reckon 96 = .ok (.aload_n 0, 1) := by decide +kernel
theorem d_Model_reckon_97 : decode b_Model_reckon 97 = .ok (.getfield 61, 3) := by decide +kernel
theorem d_Model_reckon_100 : decode b_Model_reckon 100 = .ok (.if_icmp .ge 14, 3) := by decide +kernel
theorem d_Model_reckon_103 : decode b_Model_reckon 103 = .ok (.aload_n 0, 1) := by decide +kernel
theorem d_Model_reckon_104 : decode b_Model_reckon 104 = .ok (.iload_n 2, 1) := by decide +kernel
theorem d_Model_reckon_105 : decode b_Model_reckon 105 = .ok (.invokevirtual 69, 3) := by decide +kernel
theorem d_Model_reckon_108 : decode b_Model_reckon 108 = .ok (.iinc 2 64, 3) := by decide +kernel
theorem d_Model_reckon_111 : decode b_Model_reckon 111 = .ok (.goto (-16), 3) := by decide +kernel
theorem d_Model_reckon_114 : decode b_Model_reckon 114 = .ok (.iconst 0, 1) := by decide +kernel
theorem d_Model_reckon_115 : decode b_Model_reckon 115 = .ok (.istore_n 2, 1) := by decide +kernel
theorem d_Model_reckon_116 : decode b_Model_reckon 116 = .ok (.iload_n 2, 1) := by decide +kernel
theorem d_Model_reckon_117 : decode b_Model_reckon 117 = .ok (.bipush 32, 2) := by decide +kernel
theorem d_Model_reckon_119 : decode b_Model_reckon 119 = .ok (.if_icmp .ge 34, 3) := by decide +kernel
theorem d_Model_reckon_122 : decode b_Model_reckon 122 = .ok (.aload_n 0, 1) := by decide +kernel
theorem d_Model_reckon_123 : decode b_Model_reckon 123 = .ok (.getfield 32, 3) := by decide +kernel
theorem d_Model_reckon_126 : decode b_Model_reckon 126 = .ok (.iload_n 2, 1) := by decide +kernel
theorem d_Model_reckon_127 : decode b_Model_reckon 127 = .ok (.aload_n 0, 1) := by decide +kernel
theorem d_Model_reckon_128 : decode b_Model_reckon 128 = .ok (.getfield 35, 3) := by decide +kernel
theorem d_Model_reckon_131 : decode b_Model_reckon 131 = .ok (.iload_n 2, 1) := by decide +kernel
theorem d_Model_reckon_132 : decode b_Model_reckon 132 = .ok (.iconst 4, 1) := by decide +kernel
theorem d_Model_reckon_133 : decode b_Model_reckon 133 = .ok (.idiv, 1) := by decide +kernel
theorem d_Model_reckon_134 : decode b_Model_reckon 134 = .ok (.iaload, 1) := by decide +kernel
theorem d_Model_reckon_135 : decode b_Model_reckon 135 = .ok (.bipush 24, 2) := by decide +kernel
theorem d_Model_reckon_137 : decode b_Model_reckon 137 = .ok (.bipush 8, 2) := by decide +kernel
theorem d_Model_reckon_139 : decode b_Model_reckon 139 = .ok (.iload_n 2, 1) := by decide +kernel
theorem d_Model_reckon_140 : decode b_Model_reckon 140 = .ok (.iconst 4, 1) := by decide +kernel
theorem d_Model_reckon_141 : decode b_Model_reckon 141 = .ok (.irem, 1) := by decide +kernel
theorem d_Model_reckon_142 : decode b_Model_reckon 142 = .ok (.imul, 1) := by decide +kernel
theorem d_Model_reckon_143 : decode b_Model_reckon 143 = .ok (.isub, 1) := by decide +kernel
theorem d_Model_reckon_144 : decode b_Model_reckon 144 = .ok (.ishr, 1) := by decide +kernel
theorem d_Model_reckon_145 : decode b_Model_reckon 145 = .ok (.i2b, 1) := by decide +kernel
theorem d_Model_reckon_146 : decode b_Model_reckon 146 = .ok (.bastore, 1) := by decide +kernel
theorem d_Model_reckon_147 : decode b_Model_reckon 147 = .ok (.iinc 2 1, 3) := by decide +kernel
theorem d_Model_reckon_150 : decode b_Model_reckon 150 = .ok (.goto (-34), 3) := by decide +kernel
theorem d_Model_reckon_153 : decode b_Model_reckon 153 = .ok (.return_, 1) := by decide +kernel
