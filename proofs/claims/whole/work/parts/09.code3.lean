theorem d_Ma_min_0 : decode b_Ma_min 0 = .ok (.iload_n 0, 1) := by decide +kernel
theorem d_Ma_min_1 : decode b_Ma_min 1 = .ok (.iload_n 1, 1) := by decide +kernel
theorem d_Ma_min_2 : decode b_Ma_min 2 = .ok (.if_icmp .gt 7, 3) := by decide +kernel
theorem d_Ma_min_5 : decode b_Ma_min 5 = .ok (.iload_n 0, 1) := by decide +kernel
theorem d_Ma_min_6 : decode b_Ma_min 6 = .ok (.goto 4, 3) := by decide +kernel
theorem d_Ma_min_9 : decode b_Ma_min 9 = .ok (.iload_n 1, 1) := by decide +kernel
theorem d_Ma_min_10 : decode b_Ma_min 10 = .ok (.ireturn, 1) := by decide +kernel
theorem d_Md_init_0 : decode b_Md_init 0 = .ok (.aload_n 0, 1) := by decide +kernel
theorem d_Md_init_1 : decode b_Md_init 1 = .ok (.invokespecial 1, 3) := by decide +kernel
theorem d_Md_init_4 : decode b_Md_init 4 = .ok (.aload_n 0, 1) := by decide +kernel
theorem d_Md_init_5 : decode b_Md_init 5 = .ok (.bipush 16, 2) := by decide +kernel
theorem d_Md_init_7 : decode b_Md_init 7 = .ok (.newarray .int, 2) := by decide +kernel
theorem d_Md_init_9 : decode b_Md_init 9 = .ok (.putfield 7, 3) := by decide +kernel
theorem d_Md_init_12 : decode b_Md_init 12 = .ok (.aload_n 0, 1) := by decide +kernel
theorem d_Md_init_13 : decode b_Md_init 13 = .ok (.bipush 16, 2) := by decide +kernel
theorem d_Md_init_15 : decode b_Md_init 15 = .ok (.newarray .int, 2) := by decide +kernel
theorem d_Md_init_17 : decode b_Md_init 17 = .ok (.putfield 13, 3) := by decide +kernel
theorem d_Md_init_20 : decode b_Md_init 20 = .ok (.aload_n 0, 1) := by decide +kernel
theorem d_Md_init_21 : decode b_Md_init 21 = .ok (.bipush 16, 2) := by decide +kernel
theorem d_Md_init_23 : decode b_Md_init 23 = .ok (.newarray .int, 2) := by decide +kernel
theorem d_Md_init_25 : decode b_Md_init 25 = .ok (.putfield 16, 3) := by decide +kernel
theorem d_Md_init_28 : decode b_Md_init 28 = .ok (.aload_n 0, 1) := by decide +kernel
theorem d_Md_init_29 : decode b_Md_init 29 = .ok (.bipush 16, 2) := by decide +kernel
theorem d_Md_init_31 : decode b_Md_init 31 = .ok (.newarray .int, 2) := by decide +kernel
theorem d_Md_init_33 : decode b_Md_init 33 = .ok (.putfield 19, 3) := by decide +kernel
theorem d_Md_init_36 : decode b_Md_init 36 = .ok (.aload_n 0, 1) := by decide +kernel
theorem d_Md_init_37 : decode b_Md_init 37 = .ok (.bipush 16, 2) := by decide +kernel
theorem d_Md_init_39 : decode b_Md_init 39 = .ok (.newarray .int, 2) := by decide +kernel
theorem d_Md_init_41 : decode b_Md_init 41 = .ok (.putfield 22, 3) := by decide +kernel
theorem d_Md_init_44 : decode b_Md_init 44 = .ok (.aload_n 0, 1) := by decide +kernel
theorem d_Md_init_45 : decode b_Md_init 45 = .ok (.bipush 16, 2) := by decide +kernel
theorem d_Md_init_47 : decode b_Md_init 47 = .ok (.newarray .int, 2) := by decide +kernel
theorem d_Md_init_49 : decode b_Md_init 49 = .ok (.putfield 25, 3) := by decide +kernel
theorem d_Md_init_52 : decode b_Md_init 52 = .ok (.aload_n 0, 1) := by decide +kernel
theorem d_Md_init_53 : decode b_Md_init 53 = .ok (.bipush 16, 2) := by decide +kernel
theorem d_Md_init_55 : decode b_Md_init 55 = .ok (.newarray .int, 2) := by decide +kernel
theorem d_Md_init_57 : decode b_Md_init 57 = .ok (.putfield 28, 3) := by decide +kernel
theorem d_Md_init_60 : decode b_Md_init 60 = .ok (.aload_n 0, 1) := by decide +kernel
theorem d_Md_init_61 : decode b_Md_init 61 = .ok (.bipush 64, 2) := by decide +kernel
theorem d_Md_init_63 : decode b_Md_init 63 = .ok (.newarray .int, 2) := by decide +kernel
theorem d_Md_init_65 : decode b_Md_init 65 = .ok (.putfield 31, 3) := by decide +kernel
theorem d_Md_init_68 : decode b_Md_init 68 = .ok (.aload_n 0, 1) := by decide +kernel
theorem d_Md_init_69 : decode b_Md_init 69 = .ok (.bipush 64, 2) := by decide +kernel
theorem d_Md_init_71 : decode b_Md_init 71 = .ok (.newarray .int, 2) := by decide +kernel
theorem d_Md_init_73 : decode b_Md_init 73 = .ok (.putfield 34, 3) := by decide +kernel
theorem d_Md_init_76 : decode b_Md_init 76 = .ok (.aload_n 0, 1) := by decide +kernel
theorem d_Md_init_77 : decode b_Md_init 77 = .ok (.bipush 64, 2) := by decide +kernel
theorem d_Md_init_79 : decode b_Md_init 79 = .ok (.newarray .int, 2) := by decide +kernel
theorem d_Md_init_81 : decode b_Md_init 81 = .ok (.putfield 37, 3) := by decide +kernel
theorem d_Md_init_84 : decode b_Md_init 84 = .ok (.aload_n 0, 1) := by decide +kernel
theorem d_Md_init_85 : decode b_Md_init 85 = .ok (.bipush 64, 2) := by decide +kernel
theorem d_Md_init_87 : decode b_Md_init 87 = .ok (.newarray .int, 2) := by decide +kernel
theorem d_Md_init_89 : decode b_Md_init 89 = .ok (.putfield 40, 3) := by decide +kernel
theorem d_Md_init_92 : decode b_Md_init 92 = .ok (.aload_n 0, 1) := by decide +kernel
theorem d_Md_init_93 : decode b_Md_init 93 = .ok (.bipush 12, 2) := by decide +kernel
theorem d_Md_init_95 : decode b_Md_init 95 = .ok (.newarray .int, 2) := by decide +kernel
theorem d_Md_init_97 : decode b_Md_init 97 = .ok (.putfield 43, 3) := by decide +kernel
theorem d_Md_init_100 : decode b_Md_init 100 = .ok (.aload_n 0, 1) := by decide +kernel
theorem d_Md_init_101 : decode b_Md_init 101 = .ok (.bipush 12, 2) := by decide +kernel
theorem d_Md_init_103 : decode b_Md_init 103 = .ok (.newarray .int, 2) := by decide +kernel
theorem d_Md_init_105 : decode b_Md_init 105 = .ok (.putfield 46, 3) := by decide +kernel
theorem d_Md_init_108 : decode b_Md_init 108 = .ok (.aload_n 0, 1) := by decide +kernel
theorem d_Md_init_109 : decode b_Md_init 109 = .ok (.bipush 12, 2) := by decide +kernel
theorem d_Md_init_111 : decode b_Md_init 111 = .ok (.newarray .boolean, 2) := by decide +kernel
theorem d_Md_init_113 : decode b_Md_init 113 = .ok (.putfield 49, 3) := by decide +kernel
theorem d_Md_init_116 : decode b_Md_init 116 = .ok (.aload_n 0, 1) := by decide +kernel
theorem d_Md_init_117 : decode b_Md_init 117 = .ok (.bipush 24, 2) := by decide +kernel
theorem d_Md_init_119 : decode b_Md_init 119 = .ok (.newarray .int, 2) := by decide +kernel
theorem d_Md_init_121 : decode b_Md_init 121 = .ok (.putfield 53, 3) := by decide +kernel
theorem d_Md_init_124 : decode b_Md_init 124 = .ok (.aload_n 0, 1) := by decide +kernel
theorem d_Md_init_125 : decode b_Md_init 125 = .ok (.bipush 24, 2) := by decide +kernel
theorem d_Md_init_127 : decode b_Md_init 127 = .ok (.newarray .int, 2) := by decide +kernel
theorem d_Md_init_129 : decode b_Md_init 129 = .ok (.putfield 56, 3) := by decide +kernel
theorem d_Md_init_132 : decode b_Md_init 132 = .ok (.aload_n 0, 1) := by decide +kernel
theorem d_Md_init_133 : decode b_Md_init 133 = .ok (.bipush 12, 2) := by decide +kernel
theorem d_Md_init_135 : decode b_Md_init 135 = .ok (.newarray .int, 2) := by decide +kernel
theorem d_Md_init_137 : decode b_Md_init 137 = .ok (.putfield 59, 3) := by decide +kernel
theorem d_Md_init_140 : decode b_Md_init 140 = .ok (.aload_n 0, 1) := by decide +kernel
theorem d_Md_init_141 : decode b_Md_init 141 = .ok (.bipush 12, 2) := by decide +kernel
theorem d_Md_init_143 : decode b_Md_init 143 = .ok (.newarray .int, 2) := by decide +kernel
theorem d_Md_init_145 : decode b_Md_init 145 = .ok (.putfield 62, 3) := by decide +kernel
theorem d_Md_init_148 : decode b_Md_init 148 = .ok (.aload_n 0, 1) := by decide +kernel
theorem d_Md_init_149 : decode b_Md_init 149 = .ok (.bipush 48, 2) := by decide +kernel
theorem d_Md_init_151 : decode b_Md_init 151 = .ok (.newarray .boolean, 2) := by decide +kernel
theorem d_Md_init_153 : decode b_Md_init 153 = .ok (.putfield 65, 3) := by decide +kernel
theorem d_Md_init_156 : decode b_Md_init 156 = .ok (.aload_n 0, 1) := by decide +kernel
theorem d_Md_init_157 : decode b_Md_init 157 = .ok (.bipush 48, 2) := by decide +kernel
theorem d_Md_init_159 : decode b_Md_init 159 = .ok (.newarray .boolean, 2) := by decide +kernel
theorem d_Md_init_161 : decode b_Md_init 161 = .ok (.putfield 68, 3) := by decide +kernel
theorem d_Md_init_164 : decode b_Md_init 164 = .ok (.aload_n 0, 1) := by decide +kernel
theorem d_Md_init_165 : decode b_Md_init 165 = .ok (.bipush 16, 2) := by decide +kernel
theorem d_Md_init_167 : decode b_Md_init 167 = .ok (.newarray .int, 2) := by decide +kernel
theorem d_Md_init_169 : decode b_Md_init 169 = .ok (.putfield 71, 3) := by decide +kernel
theorem d_Md_init_172 : decode b_Md_init 172 = .ok (.aload_n 0, 1) := by decide +kernel
theorem d_Md_init_173 : decode b_Md_init 173 = .ok (.bipush 16, 2) := by decide +kernel
theorem d_Md_init_175 : decode b_Md_init 175 = .ok (.newarray .int, 2) := by decide +kernel
theorem d_Md_init_177 : decode b_Md_init 177 = .ok (.putfield 74, 3) := by decide +kernel
theorem d_Md_init_180 : decode b_Md_init 180 = .ok (.aload_n 0, 1) := by decide +kernel
theorem d_Md_init_181 : decode b_Md_init 181 = .ok (.bipush 16, 2) := by decide +kernel
theorem d_Md_init_183 : decode b_Md_init 183 = .ok (.newarray .int, 2) := by decide +kernel
theorem d_Md_init_185 : decode b_Md_init 185 = .ok (.putfield 77, 3) := by decide +kernel
theorem d_Md_init_188 : decode b_Md_init 188 = .ok (.aload_n 0, 1) := by decide +kernel
theorem d_Md_init_189 : decode b_Md_init 189 = .ok (.sipush 16533, 3) := by decide +kernel
theorem d_Md_init_192 : decode b_Md_init 192 = .ok (.newarray .int, 2) := by decide +kernel
theorem d_Md_init_194 : decode b_Md_init 194 = .ok (.putfield 80, 3) := by decide +kernel
theorem d_Md_init_197 : decode b_Md_init 197 = .ok (.aload_n 0, 1) := by decide +kernel
theorem d_Md_init_198 : decode b_Md_init 198 = .ok (.bipush 16, 2) := by decide +kernel
theorem d_Md_init_200 : decode b_Md_init 200 = .ok (.newarray .int, 2) := by decide +kernel
theorem d_Md_init_202 : decode b_Md_init 202 = .ok (.putfield 83, 3) := by decide +kernel
theorem d_Md_init_205 : decode b_Md_init 205 = .ok (.aload_n 0, 1) := by decide +kernel
theorem d_Md_init_206 : decode b_Md_init 206 = .ok (.bipush 16, 2) := by decide +kernel
theorem d_Md_init_208 : decode b_Md_init 208 = .ok (.newarray .int, 2) := by decide +kernel
theorem d_Md_init_210 : decode b_Md_init 210 = .ok (.putfield 86, 3) := by decide +kernel
theorem d_Md_init_213 : decode b_Md_init 213 = .ok (.aload_n 0, 1) := by decide +kernel
theorem d_Md_init_214 : decode b_Md_init 214 = .ok (.bipush 16, 2) := by decide +kernel
theorem d_Md_init_216 : decode b_Md_init 216 = .ok (.newarray .int, 2) := by decide +kernel
theorem d_Md_init_218 : decode b_Md_init 218 = .ok (.putfield 89, 3) := by decide +kernel
theorem d_Md_init_221 : decode b_Md_init 221 = .ok (.return_, 1) := by decide +kernel
theorem d_Md_thrown_0 : decode b_Md_thrown 0 = .ok (.aload_n 0, 1) := by decide +kernel
theorem d_Md_thrown_1 : decode b_Md_thrown 1 = .ok (.getfield 92, 3) := by decide +kernel
theorem d_Md_thrown_4 : decode b_Md_thrown 4 = .ok (.ireturn, 1) := by decide +kernel
theorem d_Md_relay_0 : decode b_Md_relay 0 = .ok (.aload_n 0, 1) := by decide +kernel
theorem d_Md_relay_1 : decode b_Md_relay 1 = .ok (.iload_n 1, 1) := by decide +kernel
theorem d_Md_relay_2 : decode b_Md_relay 2 = .ok (.iload_n 2, 1) := by decide +kernel
theorem d_Md_relay_3 : decode b_Md_relay 3 = .ok (.invokestatic 104, 3) := by decide +kernel
theorem d_Md_relay_6 : decode b_Md_relay 6 = .ok (.ifCond .eq 24, 3) := by decide +kernel
theorem d_Md_relay_9 : decode b_Md_relay 9 = .ok (.iload_n 3, 1) := by decide +kernel
theorem d_Md_relay_10 : decode b_Md_relay 10 = .ok (.iconst 1, 1) := by decide +kernel
theorem d_Md_relay_11 : decode b_Md_relay 11 = .ok (.bipush 9, 2) := by decide +kernel
theorem d_Md_relay_13 : decode b_Md_relay 13 = .ok (.invokestatic 96, 3) := by decide +kernel
theorem d_Md_relay_16 : decode b_Md_relay 16 = .ok (.ifCond .eq 14, 3) := by decide +kernel
theorem d_Md_relay_19 : decode b_Md_relay 19 = .ok (.iload 4, 2) := by decide +kernel
theorem d_Md_relay_21 : decode b_Md_relay 21 = .ok (.iconst 1, 1) := by decide +kernel
theorem d_Md_relay_22 : decode b_Md_relay 22 = .ok (.bipush 9, 2) := by decide +kernel
theorem d_Md_relay_24 : decode b_Md_relay 24 = .ok (.invokestatic 96, 3) := by decide +kernel
theorem d_Md_relay_27 : decode b_Md_relay 27 = .ok (.ifCond .ne 7, 3) := by decide +kernel
theorem d_Md_relay_30 : decode b_Md_relay 30 = .ok (.iconst 1, 1) := by decide +kernel
theorem d_Md_relay_31 : decode b_Md_relay 31 = .ok (.goto 17, 3) := by decide +kernel
theorem d_Md_relay_34 : decode b_Md_relay 34 = .ok (.aload_n 0, 1) := by decide +kernel
theorem d_Md_relay_35 : decode b_Md_relay 35 = .ok (.getfield 108, 3) := by decide +kernel
theorem d_Md_relay_38 : decode b_Md_relay 38 = .ok (.bipush 16, 2) := by decide +kernel
theorem d_Md_relay_40 : decode b_Md_relay 40 = .ok (.if_icmp .ne 7, 3) := by decide +kernel
theorem d_Md_relay_43 : decode b_Md_relay 43 = .ok (.iconst 2, 1) := by decide +kernel
theorem d_Md_relay_44 : decode b_Md_relay 44 = .ok (.goto 4, 3) := by decide +kernel
theorem d_Md_relay_47 : decode b_Md_relay 47 = .ok (.iconst 0, 1) := by decide +kernel
theorem d_Md_relay_48 : decode b_Md_relay 48 = .ok (.putfield 92, 3) := by decide +kernel
theorem d_Md_relay_51 : decode b_Md_relay 51 = .ok (.aload_n 0, 1) := by decide +kernel
theorem d_Md_relay_52 : decode b_Md_relay 52 = .ok (.getfield 92, 3) := by decide +kernel
theorem d_Md_relay_55 : decode b_Md_relay 55 = .ok (.ifCond .le 5, 3) := by decide +kernel
theorem d_Md_relay_58 : decode b_Md_relay 58 = .ok (.iconst 0, 1) := by decide +kernel
theorem d_Md_relay_59 : decode b_Md_relay 59 = .ok (.ireturn, 1) := by decide +kernel
theorem d_Md_relay_60 : decode b_Md_relay 60 = .ok (.aload_n 0, 1) := by decide +kernel
theorem d_Md_relay_61 : decode b_Md_relay 61 = .ok (.getfield 7, 3) := by decide +kernel
theorem d_Md_relay_64 : decode b_Md_relay 64 = .ok (.aload_n 0, 1) := by decide +kernel
theorem d_Md_relay_65 : decode b_Md_relay 65 = .ok (.getfield 108, 3) := by decide +kernel
theorem d_Md_relay_68 : decode b_Md_relay 68 = .ok (.iload_n 1, 1) := by decide +kernel
theorem d_Md_relay_69 : decode b_Md_relay 69 = .ok (.iastore, 1) := by decide +kernel
theorem d_Md_relay_70 : decode b_Md_relay 70 = .ok (.aload_n 0, 1) := by decide +kernel
theorem d_Md_relay_71 : decode b_Md_relay 71 = .ok (.getfield 13, 3) := by decide +kernel
theorem d_Md_relay_74 : decode b_Md_relay 74 = .ok (.aload_n 0, 1) := by decide +kernel
theorem d_Md_relay_75 : decode b_Md_relay 75 = .ok (.getfield 108, 3) := by decide +kernel
theorem d_Md_relay_78 : decode b_Md_relay 78 = .ok (.iload_n 2, 1) := by decide +kernel
theorem d_Md_relay_79 : decode b_Md_relay 79 = .ok (.iastore, 1) := by decide +kernel
theorem d_Md_relay_80 : decode b_Md_relay 80 = .ok (.aload_n 0, 1) := by decide +kernel
theorem d_Md_relay_81 : decode b_Md_relay 81 = .ok (.getfield 16, 3) := by decide +kernel
theorem d_Md_relay_84 : decode b_Md_relay 84 = .ok (.aload_n 0, 1) := by decide +kernel
theorem d_Md_relay_85 : decode b_Md_relay 85 = .ok (.getfield 108, 3) := by decide +kernel
theorem d_Md_relay_88 : decode b_Md_relay 88 = .ok (.iload_n 3, 1) := by decide +kernel
theorem d_Md_relay_89 : decode b_Md_relay 89 = .ok (.iastore, 1) := by decide +kernel
theorem d_Md_relay_90 : decode b_Md_relay 90 = .ok (.aload_n 0, 1) := by decide +kernel
theorem d_Md_relay_91 : decode b_Md_relay 91 = .ok (.getfield 19, 3) := by decide +kernel
theorem d_Md_relay_94 : decode b_Md_relay 94 = .ok (.aload_n 0, 1) := by decide +kernel
theorem d_Md_relay_95 : decode b_Md_relay 95 = .ok (.getfield 108, 3) := by decide +kernel
theorem d_Md_relay_98 : decode b_Md_relay 98 = .ok (.iload 4, 2) := by decide +kernel
theorem d_Md_relay_100 : decode b_Md_relay 100 = .ok (.iastore, 1) := by decide +kernel
theorem d_Md_relay_101 : decode b_Md_relay 101 = .ok (.aload_n 0, 1) := by decide +kernel
theorem d_Md_relay_102 : decode b_Md_relay 102 = .ok (.dup, 1) := by decide +kernel
theorem d_Md_relay_103 : decode b_Md_relay 103 = .ok (.getfield 108, 3) := by decide +kernel
theorem d_Md_relay_106 : decode b_Md_relay 106 = .ok (.iconst 1, 1) := by decide +kernel
theorem d_Md_relay_107 : decode b_Md_relay 107 = .ok (.iadd, 1) := by decide +kernel
theorem d_Md_relay_108 : decode b_Md_relay 108 = .ok (.putfield 108, 3) := by decide +kernel
theorem d_Md_relay_111 : decode b_Md_relay 111 = .ok (.aload_n 0, 1) := by decide +kernel
theorem d_Md_relay_112 : decode b_Md_relay 112 = .ok (.invokevirtual 111, 3) := by decide +kernel
theorem d_Md_relay_115 : decode b_Md_relay 115 = .ok (.aload_n 0, 1) := by decide +kernel
theorem d_Md_relay_116 : decode b_Md_relay 116 = .ok (.getfield 108, 3) := by decide +kernel
theorem d_Md_relay_119 : decode b_Md_relay 119 = .ok (.iconst 1, 1) := by decide +kernel
theorem d_Md_relay_120 : decode b_Md_relay 120 = .ok (.isub, 1) := by decide +kernel
theorem d_Md_relay_121 : decode b_Md_relay 121 = .ok (.ireturn, 1) := by decide +kernel
theorem d_Md_areNodes_0 : decode b_Md_areNodes 0 = .ok (.iload_n 0, 1) := by decide +kernel
theorem d_Md_areNodes_1 : decode b_Md_areNodes 1 = .ok (.invokestatic 100, 3) := by decide +kernel
theorem d_Md_areNodes_4 : decode b_Md_areNodes 4 = .ok (.ifCond .eq 19, 3) := by decide +kernel
theorem d_Md_areNodes_7 : decode b_Md_areNodes 7 = .ok (.iload_n 1, 1) := by decide +kernel
theorem d_Md_areNodes_8 : decode b_Md_areNodes 8 = .ok (.invokestatic 100, 3) := by decide +kernel
theorem d_Md_areNodes_11 : decode b_Md_areNodes 11 = .ok (.ifCond .eq 12, 3) := by decide +kernel
theorem d_Md_areNodes_14 : decode b_Md_areNodes 14 = .ok (.iload_n 0, 1) := by decide +kernel
theorem d_Md_areNodes_15 : decode b_Md_areNodes 15 = .ok (.iload_n 1, 1) := by decide +kernel
theorem d_Md_areNodes_16 : decode b_Md_areNodes 16 = .ok (.if_icmp .eq 7, 3) := by decide +kernel
theorem d_Md_areNodes_19 : decode b_Md_areNodes 19 = .ok (.iconst 1, 1) := by decide +kernel
theorem d_Md_areNodes_20 : decode b_Md_areNodes 20 = .ok (.goto 4, 3) := by decide +kernel
theorem d_Md_areNodes_23 : decode b_Md_areNodes 23 = .ok (.iconst 0, 1) := by decide +kernel
theorem d_Md_areNodes_24 : decode b_Md_areNodes 24 = .ok (.ireturn, 1) := by decide +kernel
theorem d_Md_isNode_0 : decode b_Md_isNode 0 = .ok (.iload_n 0, 1) := by decide +kernel
theorem d_Md_isNode_1 : decode b_Md_isNode 1 = .ok (.iconst 0, 1) := by decide +kernel
theorem d_Md_isNode_2 : decode b_Md_isNode 2 = .ok (.bipush 47, 2) := by decide +kernel
theorem d_Md_isNode_4 : decode b_Md_isNode 4 = .ok (.invokestatic 96, 3) := by decide +kernel
theorem d_Md_isNode_7 : decode b_Md_isNode 7 = .ok (.ireturn, 1) := by decide +kernel
theorem d_Md_in_0 : decode b_Md_in 0 = .ok (.iload_n 0, 1) := by decide +kernel
theorem d_Md_in_1 : decode b_Md_in 1 = .ok (.iload_n 1, 1) := by decide +kernel
theorem d_Md_in_2 : decode b_Md_in 2 = .ok (.if_icmp .lt 12, 3) := by decide +kernel
theorem d_Md_in_5 : decode b_Md_in 5 = .ok (.iload_n 0, 1) := by decide +kernel
theorem d_Md_in_6 : decode b_Md_in 6 = .ok (.iload_n 2, 1) := by decide +kernel
theorem d_Md_in_7 : decode b_Md_in 7 = .ok (.if_icmp .gt 7, 3) := by decide +kernel
theorem d_Md_in_10 : decode b_Md_in 10 = .ok (.iconst 1, 1) := by decide +kernel
theorem d_Md_in_11 : decode b_Md_in 11 = .ok (.goto 4, 3) := by decide +kernel
theorem d_Md_in_14 : decode b_Md_in 14 = .ok (.iconst 0, 1) := by decide +kernel
theorem d_Md_in_15 : decode b_Md_in 15 = .ok (.ireturn, 1) := by decide +kernel
theorem d_Md_lookAtFuse_0 : decode b_Md_lookAtFuse 0 = .ok (.aload_n 0, 1) := by decide +kernel
theorem d_Md_lookAtFuse_1 : decode b_Md_lookAtFuse 1 = .ok (.invokevirtual 141, 3) := by decide +kernel
theorem d_Md_lookAtFuse_4 : decode b_Md_lookAtFuse 4 = .ok (.aload_n 0, 1) := by decide +kernel
theorem d_Md_lookAtFuse_5 : decode b_Md_lookAtFuse 5 = .ok (.aload_n 0, 1) := by decide +kernel
theorem d_Md_lookAtFuse_6 : decode b_Md_lookAtFuse 6 = .ok (.getfield 137, 3) := by decide +kernel
theorem d_Md_lookAtFuse_9 : decode b_Md_lookAtFuse 9 = .ok (.ifCond .ne 12, 3) := by decide +kernel
theorem d_Md_lookAtFuse_12 : decode b_Md_lookAtFuse 12 = .ok (.aload_n 0, 1) := by decide +kernel
theorem d_Md_lookAtFuse_13 : decode b_Md_lookAtFuse 13 = .ok (.getfield 65, 3) := by decide +kernel
theorem d_Md_lookAtFuse_16 : decode b_Md_lookAtFuse 16 = .ok (.iconst 1, 1) := by decide +kernel
theorem d_Md_lookAtFuse_17 : decode b_Md_lookAtFuse 17 = .ok (.baload, 1) := by decide +kernel
theorem d_Md_lookAtFuse_18 : decode b_Md_lookAtFuse 18 = .ok (.ifCond .eq 7, 3) := by decide +kernel
theorem d_Md_lookAtFuse_21 : decode b_Md_lookAtFuse 21 = .ok (.iconst 1, 1) := by decide +kernel
theorem d_Md_lookAtFuse_22 : decode b_Md_lookAtFuse 22 = .ok (.goto 4, 3) := by decide +kernel
theorem d_Md_lookAtFuse_25 : decode b_Md_lookAtFuse 25 = .ok (.iconst 0, 1) := by decide +kernel
theorem d_Md_lookAtFuse_26 : decode b_Md_lookAtFuse 26 = .ok (.putfield 137, 3) := by decide +kernel
theorem d_Md_lookAtFuse_29 : decode b_Md_lookAtFuse 29 = .ok (.return_, 1) := by decide +kernel
theorem d_Md_lay_0 : decode b_Md_lay 0 = .ok (.aload_n 0, 1) := by decide +kernel
theorem d_Md_lay_1 : decode b_Md_lay 1 = .ok (.aload_n 0, 1) := by decide +kernel
theorem d_Md_lay_2 : decode b_Md_lay 2 = .ok (.getfield 65, 3) := by decide +kernel
theorem d_Md_lay_5 : decode b_Md_lay 5 = .ok (.iconst 0, 1) := by decide +kernel
theorem d_Md_lay_6 : decode b_Md_lay 6 = .ok (.iconst 0, 1) := by decide +kernel
theorem d_Md_lay_7 : decode b_Md_lay 7 = .ok (.invokevirtual 133, 3) := by decide +kernel
theorem d_Md_lay_10 : decode b_Md_lay 10 = .ok (.aload_n 0, 1) := by decide +kernel
theorem d_Md_lay_11 : decode b_Md_lay 11 = .ok (.aload_n 0, 1) := by decide +kernel
theorem d_Md_lay_12 : decode b_Md_lay 12 = .ok (.getfield 68, 3) := by decide +kernel
theorem d_Md_lay_15 : decode b_Md_lay 15 = .ok (.iconst 1, 1) := by decide +kernel
theorem d_Md_lay_16 : decode b_Md_lay 16 = .ok (.iconst 1, 1) := by decide +kernel
theorem d_Md_lay_17 : decode b_Md_lay 17 = .ok (.invokevirtual 133, 3) := by decide +kernel
theorem d_Md_lay_20 : decode b_Md_lay 20 = .ok (.return_, 1) := by decide +kernel
theorem d_Md_spread_0 : decode b_Md_spread 0 = .ok (.iconst 0, 1) := by decide +kernel
theorem d_Md_spread_1 : decode b_Md_spread 1 = .ok (.istore 4, 2) := by decide +kernel
theorem d_Md_spread_3 : decode b_Md_spread 3 = .ok (.iload 4, 2) := by decide +kernel
theorem d_Md_spread_5 : decode b_Md_spread 5 = .ok (.bipush 48, 2) := by decide +kernel
theorem d_Md_spread_7 : decode b_Md_spread 7 = .ok (.if_icmp .ge 24, 3) := by decide +kernel
theorem d_Md_spread_10 : decode b_Md_spread 10 = .ok (.aload_n 1, 1) := by decide +kernel
theorem d_Md_spread_11 : decode b_Md_spread 11 = .ok (.iload 4, 2) := by decide +kernel
theorem d_Md_spread_13 : decode b_Md_spread 13 = .ok (.iload 4, 2) := by decide +kernel
theorem d_Md_spread_15 : decode b_Md_spread 15 = .ok (.iload_n 2, 1) := by decide +kernel
theorem d_Md_spread_16 : decode b_Md_spread 16 = .ok (.if_icmp .ne 7, 3) := by decide +kernel
theorem d_Md_spread_19 : decode b_Md_spread 19 = .ok (.iconst 1, 1) := by decide +kernel
theorem d_Md_spread_20 : decode b_Md_spread 20 = .ok (.goto 4, 3) := by decide +kernel
theorem d_Md_spread_23 : decode b_Md_spread 23 = .ok (.iconst 0, 1) := by decide +kernel
theorem d_Md_spread_24 : decode b_Md_spread 24 = .ok (.bastore, 1) := by decide +kernel
theorem d_Md_spread_25 : decode b_Md_spread 25 = .ok (.iinc 4 1, 3) := by decide +kernel
theorem d_Md_spread_28 : decode b_Md_spread 28 = .ok (.goto (-25), 3) := by decide +kernel
theorem d_Md_spread_31 : decode b_Md_spread 31 = .ok (.iconst 1, 1) := by decide +kernel
theorem d_Md_spread_32 : decode b_Md_spread 32 = .ok (.istore 4, 2) := by decide +kernel
theorem d_Md_spread_34 : decode b_Md_spread 34 = .ok (.iload 4, 2) := by decide +kernel
theorem d_Md_spread_36 : decode b_Md_spread 36 = .ok (.ifCond .eq 281, 3) := by decide +kernel
theorem d_Md_spread_39 : decode b_Md_spread 39 = .ok (.iconst 0, 1) := by decide +kernel
theorem d_Md_spread_40 : decode b_Md_spread 40 = .ok (.istore 4, 2) := by decide +kernel
theorem d_Md_spread_42 : decode b_Md_spread 42 = .ok (.iconst 0, 1) := by decide +kernel
theorem d_Md_spread_43 : decode b_Md_spread 43 = .ok (.istore 5, 2) := by decide +kernel
theorem d_Md_spread_45 : decode b_Md_spread 45 = .ok (.iload 5, 2) := by decide +kernel
theorem d_Md_spread_47 : decode b_Md_spread 47 = .ok (.aload_n 0, 1) := by decide +kernel
theorem d_Md_spread_48 : decode b_Md_spread 48 = .ok (.getfield 114, 3) := by decide +kernel
theorem d_Md_spread_51 : decode b_Md_spread 51 = .ok (.if_icmp .ge 87, 3) := by decide +kernel
theorem d_Md_spread_54 : decode b_Md_spread 54 = .ok (.aload_n 0, 1) := by decide +kernel
theorem d_Md_spread_55 : decode b_Md_spread 55 = .ok (.iload 5, 2) := by decide +kernel
theorem d_Md_spread_57 : decode b_Md_spread 57 = .ok (.invokevirtual 126, 3) := by decide +kernel
theorem d_Md_spread_60 : decode b_Md_spread 60 = .ok (.ifCond .ne 6, 3) := by decide +kernel
theorem d_Md_spread_63 : decode b_Md_spread 63 = .ok (.goto 69, 3) := by decide +kernel
theorem d_Md_spread_66 : decode b_Md_spread 66 = .ok (.aload_n 1, 1) := by decide +kernel
theorem d_Md_spread_67 : decode b_Md_spread 67 = .ok (.aload_n 0, 1) := by decide +kernel
theorem d_Md_spread_68 : decode b_Md_spread 68 = .ok (.getfield 37, 3) := by decide +kernel
theorem d_Md_spread_71 : decode b_Md_spread 71 = .ok (.iload 5, 2) := by decide +kernel
theorem d_Md_spread_73 : decode b_Md_spread 73 = .ok (.iaload, 1) := by decide +kernel
theorem d_Md_spread_74 : decode b_Md_spread 74 = .ok (.aload_n 0, 1) := by decide +kernel
theorem d_Md_spread_75 : decode b_Md_spread 75 = .ok (.getfield 40, 3) := by decide +kernel
theorem d_Md_spread_78 : decode b_Md_spread 78 = .ok (.iload 5, 2) := by decide +kernel
theorem d_Md_spread_80 : decode b_Md_spread 80 = .ok (.iaload, 1) := by decide +kernel
theorem d_Md_spread_81 : decode b_Md_spread 81 = .ok (.invokestatic 129, 3) := by decide +kernel
theorem d_Md_spread_84 : decode b_Md_spread 84 = .ok (.ifCond .ne 8, 3) := by decide +kernel
theorem d_Md_spread_87 : decode b_Md_spread 87 = .ok (.iload 4, 2) := by decide +kernel
theorem d_Md_spread_89 : decode b_Md_spread 89 = .ok (.ifCond .eq 7, 3) := by decide +kernel
theorem d_Md_spread_92 : decode b_Md_spread 92 = .ok (.iconst 1, 1) := by decide +kernel
theorem d_Md_spread_93 : decode b_Md_spread 93 = .ok (.goto 4, 3) := by decide +kernel
theorem d_Md_spread_96 : decode b_Md_spread 96 = .ok (.iconst 0, 1) := by decide +kernel
theorem d_Md_spread_97 : decode b_Md_spread 97 = .ok (.istore 4, 2) := by decide +kernel
theorem d_Md_spread_99 : decode b_Md_spread 99 = .ok (.aload_n 1, 1) := by decide +kernel
theorem d_Md_spread_100 : decode b_Md_spread 100 = .ok (.aload_n 0, 1) := by decide +kernel
theorem d_Md_spread_101 : decode b_Md_spread 101 = .ok (.getfield 40, 3) := by decide +kernel
theorem d_Md_spread_104 : decode b_Md_spread 104 = .ok (.iload 5, 2) := by decide +kernel
theorem d_Md_spread_106 : decode b_Md_spread 106 = .ok (.iaload, 1) := by decide +kernel
theorem d_Md_spread_107 : decode b_Md_spread 107 = .ok (.aload_n 0, 1) := by decide +kernel
theorem d_Md_spread_108 : decode b_Md_spread 108 = .ok (.getfield 37, 3) := by decide +kernel
theorem d_Md_spread_111 : decode b_Md_spread 111 = .ok (.iload 5, 2) := by decide +kernel
theorem d_Md_spread_113 : decode b_Md_spread 113 = .ok (.iaload, 1) := by decide +kernel
theorem d_Md_spread_114 : decode b_Md_spread 114 = .ok (.invokestatic 129, 3) := by decide +kernel
theorem d_Md_spread_117 : decode b_Md_spread 117 = .ok (.ifCond .ne 8, 3) := by decide +kernel
theorem d_Md_spread_120 : decode b_Md_spread 120 = .ok (.iload 4, 2) := by decide +kernel
theorem d_Md_spread_122 : decode b_Md_spread 122 = .ok (.ifCond .eq 7, 3) := by decide +kernel
theorem d_Md_spread_125 : decode b_Md_spread 125 = .ok (.iconst 1, 1) := by decide +kernel
theorem d_Md_spread_126 : decode b_Md_spread 126 = .ok (.goto 4, 3) := by decide +kernel
theorem d_Md_spread_129 : decode b_Md_spread 129 = .ok (.iconst 0, 1) := by decide +kernel
theorem d_Md_spread_130 : decode b_Md_spread 130 = .ok (.istore 4, 2) := by decide +kernel
theorem d_Md_spread_132 : decode b_Md_spread 132 = .ok (.iinc 5 1, 3) := by decide +kernel
theorem d_Md_spread_135 : decode b_Md_spread 135 = .ok (.goto (-90), 3) := by decide +kernel
theorem d_Md_spread_138 : decode b_Md_spread 138 = .ok (.iconst 0, 1) := by decide +kernel
theorem d_Md_spread_139 : decode b_Md_spread 139 = .ok (.istore 5, 2) := by decide +kernel
theorem d_Md_spread_141 : decode b_Md_spread 141 = .ok (.iload 5, 2) := by decide +kernel
theorem d_Md_spread_143 : decode b_Md_spread 143 = .ok (.aload_n 0, 1) := by decide +kernel
theorem d_Md_spread_144 : decode b_Md_spread 144 = .ok (.getfield 117, 3) := by decide +kernel
theorem d_Md_spread_147 : decode b_Md_spread 147 = .ok (.if_icmp .ge 88, 3) := by decide +kernel
theorem d_Md_spread_150 : decode b_Md_spread 150 = .ok (.aload_n 0, 1) := by decide +kernel
theorem d_Md_spread_151 : decode b_Md_spread 151 = .ok (.getfield 49, 3) := by decide +kernel
theorem d_Md_spread_154 : decode b_Md_spread 154 = .ok (.iload 5, 2) := by decide +kernel
theorem d_Md_spread_156 : decode b_Md_spread 156 = .ok (.baload, 1) := by decide +kernel
theorem d_Md_spread_157 : decode b_Md_spread 157 = .ok (.ifCond .ne 6, 3) := by decide +kernel
theorem d_Md_spread_160 : decode b_Md_spread 160 = .ok (.goto 69, 3) := by decide +kernel
theorem d_Md_spread_163 : decode b_Md_spread 163 = .ok (.aload_n 1, 1) := by decide +kernel
theorem d_Md_spread_164 : decode b_Md_spread 164 = .ok (.aload_n 0, 1) := by decide +kernel
theorem d_Md_spread_165 : decode b_Md_spread 165 = .ok (.getfield 43, 3) := by decide +kernel
theorem d_Md_spread_168 : decode b_Md_spread 168 = .ok (.iload 5, 2) := by decide +kernel
theorem d_Md_spread_170 : decode b_Md_spread 170 = .ok (.iaload, 1) := by decide +kernel
theorem d_Md_spread_171 : decode b_Md_spread 171 = .ok (.aload_n 0, 1) := by decide +kernel
theorem d_Md_spread_172 : decode b_Md_spread 172 = .ok (.getfield 46, 3) := by decide +kernel
theorem d_Md_spread_175 : decode b_Md_spread 175 = .ok (.iload 5, 2) := by decide +kernel
theorem d_Md_spread_177 : decode b_Md_spread 177 = .ok (.iaload, 1) := by decide +kernel
theorem d_Md_spread_178 : decode b_Md_spread 178 = .ok (.invokestatic 129, 3) := by decide +kernel
theorem d_Md_spread_181 : decode b_Md_spread 181 = .ok (.ifCond .ne 8, 3) := by decide +kernel
theorem d_Md_spread_184 : decode b_Md_spread 184 = .ok (.iload 4, 2) := by decide +kernel
theorem d_Md_spread_186 : decode b_Md_spread 186 = .ok (.ifCond .eq 7, 3) := by decide +kernel
theorem d_Md_spread_189 : decode b_Md_spread 189 = .ok (.iconst 1, 1) := by decide +kernel
theorem d_Md_spread_190 : decode b_Md_spread 190 = .ok (.goto 4, 3) := by decide +kernel
theorem d_Md_spread_193 : decode b_Md_spread 193 = .ok (.iconst 0, 1) := by decide +kernel
theorem d_Md_spread_194 : decode b_Md_spread 194 = .ok (.istore 4, 2) := by decide +kernel
theorem d_Md_spread_196 : decode b_Md_spread 196 = .ok (.aload_n 1, 1) := by decide +kernel
theorem d_Md_spread_197 : decode b_Md_spread 197 = .ok (.aload_n 0, 1) := by decide +kernel
theorem d_Md_spread_198 : decode b_Md_spread 198 = .ok (.getfield 46, 3) := by decide +kernel
theorem d_Md_spread_201 : decode b_Md_spread 201 = .ok (.iload 5, 2) := by decide +kernel
theorem d_Md_spread_203 : decode b_Md_spread 203 = .ok (.iaload, 1) := by decide +kernel
theorem d_Md_spread_204 : decode b_Md_spread 204 = .ok (.aload_n 0, 1) := by decide +kernel
theorem d_Md_spread_205 : decode b_Md_spread 205 = .ok (.getfield 43, 3) := by decide +kernel
theorem d_Md_spread_208 : decode b_Md_spread 208 = .ok (.iload 5, 2) := by decide +kernel
theorem d_Md_spread_210 : decode b_Md_spread 210 = .ok (.iaload, 1) := by decide +kernel
theorem d_Md_spread_211 : decode b_Md_spread 211 = .ok (.invokestatic 129, 3) := by decide +kernel
theorem d_Md_spread_214 : decode b_Md_spread 214 = .ok (.ifCond .ne 8, 3) := by decide +kernel
theorem d_Md_spread_217 : decode b_Md_spread 217 = .ok (.iload 4, 2) := by decide +kernel
theorem d_Md_spread_219 : decode b_Md_spread 219 = .ok (.ifCond .eq 7, 3) := by decide +kernel
theorem d_Md_spread_222 : decode b_Md_spread 222 = .ok (.iconst 1, 1) := by decide +kernel
theorem d_Md_spread_223 : decode b_Md_spread 223 = .ok (.goto 4, 3) := by decide +kernel
theorem d_Md_spread_226 : decode b_Md_spread 226 = .ok (.iconst 0, 1) := by decide +kernel
theorem d_Md_spread_227 : decode b_Md_spread 227 = .ok (.istore 4, 2) := by decide +kernel
theorem d_Md_spread_229 : decode b_Md_spread 229 = .ok (.iinc 5 1, 3) := by decide +kernel
theorem d_Md_spread_232 : decode b_Md_spread 232 = .ok (.goto (-91), 3) := by decide +kernel
theorem d_Md_spread_235 : decode b_Md_spread 235 = .ok (.iconst 0, 1) := by decide +kernel
theorem d_Md_spread_236 : decode b_Md_spread 236 = .ok (.istore 5, 2) := by decide +kernel
theorem d_Md_spread_238 : decode b_Md_spread 238 = .ok (.iload 5, 2) := by decide +kernel
theorem d_Md_spread_240 : decode b_Md_spread 240 = .ok (.aload_n 0, 1) := by decide +kernel
theorem d_Md_spread_241 : decode b_Md_spread 241 = .ok (.getfield 120, 3) := by decide +kernel
theorem d_Md_spread_244 : decode b_Md_spread 244 = .ok (.if_icmp .ge 70, 3) := by decide +kernel
theorem d_Md_spread_247 : decode b_Md_spread 247 = .ok (.iload_n 3, 1) := by decide +kernel
theorem d_Md_spread_248 : decode b_Md_spread 248 = .ok (.ifCond .eq 27, 3) := by decide +kernel
theorem d_Md_spread_251 : decode b_Md_spread 251 = .ok (.aload_n 1, 1) := by decide +kernel
theorem d_Md_spread_252 : decode b_Md_spread 252 = .ok (.aload_n 0, 1) := by decide +kernel
theorem d_Md_spread_253 : decode b_Md_spread 253 = .ok (.getfield 56, 3) := by decide +kernel
theorem d_Md_spread_256 : decode b_Md_spread 256 = .ok (.iload 5, 2) := by decide +kernel
theorem d_Md_spread_258 : decode b_Md_spread 258 = .ok (.iaload, 1) := by decide +kernel
theorem d_Md_spread_259 : decode b_Md_spread 259 = .ok (.aload_n 0, 1) := by decide +kernel
theorem d_Md_spread_260 : decode b_Md_spread 260 = .ok (.getfield 53, 3) := by decide +kernel
theorem d_Md_spread_263 : decode b_Md_spread 263 = .ok (.iload 5, 2) := by decide +kernel
theorem d_Md_spread_265 : decode b_Md_spread 265 = .ok (.iaload, 1) := by decide +kernel
theorem d_Md_spread_266 : decode b_Md_spread 266 = .ok (.invokestatic 129, 3) := by decide +kernel
theorem d_Md_spread_269 : decode b_Md_spread 269 = .ok (.ifCond .eq 27, 3) := by decide +kernel
theorem d_Md_spread_272 : decode b_Md_spread 272 = .ok (.goto 29, 3) := by decide +kernel
theorem d_Md_spread_275 : decode b_Md_spread 275 = .ok (.aload_n 1, 1) := by decide +kernel
theorem d_Md_spread_276 : decode b_Md_spread 276 = .ok (.aload_n 0, 1) := by decide +kernel
theorem d_Md_spread_277 : decode b_Md_spread 277 = .ok (.getfield 53, 3) := by decide +kernel
theorem d_Md_spread_280 : decode b_Md_spread 280 = .ok (.iload 5, 2) := by decide +kernel
theorem d_Md_spread_282 : decode b_Md_spread 282 = .ok (.iaload, 1) := by decide +kernel
theorem d_Md_spread_283 : decode b_Md_spread 283 = .ok (.aload_n 0, 1) := by decide +kernel
theorem d_Md_spread_284 : decode b_Md_spread 284 = .ok (.getfield 56, 3) := by decide +kernel
theorem d_Md_spread_287 : decode b_Md_spread 287 = .ok (.iload 5, 2) := by decide +kernel
theorem d_Md_spread_289 : decode b_Md_spread 289 = .ok (.iaload, 1) := by decide +kernel
theorem d_Md_spread_290 : decode b_Md_spread 290 = .ok (.invokestatic 129, 3) := by decide +kernel
theorem d_Md_spread_293 : decode b_Md_spread 293 = .ok (.ifCond .ne 8, 3) := by decide +kernel
theorem d_Md_spread_296 : decode b_Md_spread 296 = .ok (.iload 4, 2) := by decide +kernel
theorem d_Md_spread_298 : decode b_Md_spread 298 = .ok (.ifCond .eq 7, 3) := by decide +kernel
theorem d_Md_spread_301 : decode b_Md_spread 301 = .ok (.iconst 1, 1) := by decide +kernel
theorem d_Md_spread_302 : decode b_Md_spread 302 = .ok (.goto 4, 3) := by decide +kernel
theorem d_Md_spread_305 : decode b_Md_spread 305 = .ok (.iconst 0, 1) := by decide +kernel
theorem d_Md_spread_306 : decode b_Md_spread 306 = .ok (.istore 4, 2) := by decide +kernel
theorem d_Md_spread_308 : decode b_Md_spread 308 = .ok (.iinc 5 1, 3) := by decide +kernel
theorem d_Md_spread_311 : decode b_Md_spread 311 = .ok (.goto (-73), 3) := by decide +kernel
theorem d_Md_spread_314 : decode b_Md_spread 314 = .ok (.goto (-280), 3) := by decide +kernel
theorem d_Md_spread_317 : decode b_Md_spread 317 = .ok (.return_, 1) := by decide +kernel
theorem d_Md_conducts_0 : decode b_Md_conducts 0 = .ok (.aload_n 0, 1) := by decide +kernel
theorem d_Md_conducts_1 : decode b_Md_conducts 1 = .ok (.getfield 31, 3) := by decide +kernel
theorem d_Md_conducts_4 : decode b_Md_conducts 4 = .ok (.iload_n 1, 1) := by decide +kernel
theorem d_Md_conducts_5 : decode b_Md_conducts 5 = .ok (.iaload, 1) := by decide +kernel
theorem d_Md_conducts_6 : decode b_Md_conducts 6 = .ok (.istore_n 2, 1) := by decide +kernel
theorem d_Md_conducts_7 : decode b_Md_conducts 7 = .ok (.iload_n 2, 1) := by decide +kernel
theorem d_Md_conducts_8 : decode b_Md_conducts 8 = .ok (.iconst 4, 1) := by decide +kernel
theorem d_Md_conducts_9 : decode b_Md_conducts 9 = .ok (.if_icmp .ne 5, 3) := by decide +kernel
theorem d_Md_conducts_12 : decode b_Md_conducts 12 = .ok (.iconst 1, 1) := by decide +kernel
theorem d_Md_conducts_13 : decode b_Md_conducts 13 = .ok (.ireturn, 1) := by decide +kernel
theorem d_Md_conducts_14 : decode b_Md_conducts 14 = .ok (.aload_n 0, 1) := by decide +kernel
theorem d_Md_conducts_15 : decode b_Md_conducts 15 = .ok (.getfield 22, 3) := by decide +kernel
theorem d_Md_conducts_18 : decode b_Md_conducts 18 = .ok (.aload_n 0, 1) := by decide +kernel
theorem d_Md_conducts_19 : decode b_Md_conducts 19 = .ok (.getfield 34, 3) := by decide +kernel
theorem d_Md_conducts_22 : decode b_Md_conducts 22 = .ok (.iload_n 1, 1) := by decide +kernel
theorem d_Md_conducts_23 : decode b_Md_conducts 23 = .ok (.iaload, 1) := by decide +kernel
theorem d_Md_conducts_24 : decode b_Md_conducts 24 = .ok (.iaload, 1) := by decide +kernel
theorem d_Md_conducts_25 : decode b_Md_conducts 25 = .ok (.istore_n 3, 1) := by decide +kernel
theorem d_Md_conducts_26 : decode b_Md_conducts 26 = .ok (.iload_n 2, 1) := by decide +kernel
theorem d_Md_conducts_27 : decode b_Md_conducts 27 = .ok (.ifCond .ne 16, 3) := by decide +kernel
theorem d_Md_conducts_30 : decode b_Md_conducts 30 = .ok (.iload_n 3, 1) := by decide +kernel
theorem d_Md_conducts_31 : decode b_Md_conducts 31 = .ok (.iconst 2, 1) := by decide +kernel
theorem d_Md_conducts_32 : decode b_Md_conducts 32 = .ok (.if_icmp .ne 7, 3) := by decide +kernel
theorem d_Md_conducts_35 : decode b_Md_conducts 35 = .ok (.iconst 1, 1) := by decide +kernel
theorem d_Md_conducts_36 : decode b_Md_conducts 36 = .ok (.goto 51, 3) := by decide +kernel
theorem d_Md_conducts_39 : decode b_Md_conducts 39 = .ok (.iconst 0, 1) := by decide +kernel
theorem d_Md_conducts_40 : decode b_Md_conducts 40 = .ok (.goto 47, 3) := by decide +kernel
theorem d_Md_conducts_43 : decode b_Md_conducts 43 = .ok (.iload_n 2, 1) := by decide +kernel
theorem d_Md_conducts_44 : decode b_Md_conducts 44 = .ok (.iconst 1, 1) := by decide +kernel
theorem d_Md_conducts_45 : decode b_Md_conducts 45 = .ok (.if_icmp .ne 15, 3) := by decide +kernel
theorem d_Md_conducts_48 : decode b_Md_conducts 48 = .ok (.iload_n 3, 1) := by decide +kernel
theorem d_Md_conducts_49 : decode b_Md_conducts 49 = .ok (.ifCond .ne 7, 3) := by decide +kernel
theorem d_Md_conducts_52 : decode b_Md_conducts 52 = .ok (.iconst 1, 1) := by decide +kernel
theorem d_Md_conducts_53 : decode b_Md_conducts 53 = .ok (.goto 34, 3) := by decide +kernel
theorem d_Md_conducts_56 : decode b_Md_conducts 56 = .ok (.iconst 0, 1) := by decide +kernel
theorem d_Md_conducts_57 : decode b_Md_conducts 57 = .ok (.goto 30, 3) := by decide +kernel
theorem d_Md_conducts_60 : decode b_Md_conducts 60 = .ok (.iload_n 2, 1) := by decide +kernel
theorem d_Md_conducts_61 : decode b_Md_conducts 61 = .ok (.iconst 2, 1) := by decide +kernel
theorem d_Md_conducts_62 : decode b_Md_conducts 62 = .ok (.if_icmp .ne 15, 3) := by decide +kernel
theorem d_Md_conducts_65 : decode b_Md_conducts 65 = .ok (.iload_n 3, 1) := by decide +kernel
theorem d_Md_conducts_66 : decode b_Md_conducts 66 = .ok (.ifCond .eq 7, 3) := by decide +kernel
theorem d_Md_conducts_69 : decode b_Md_conducts 69 = .ok (.iconst 1, 1) := by decide +kernel
theorem d_Md_conducts_70 : decode b_Md_conducts 70 = .ok (.goto 17, 3) := by decide +kernel
theorem d_Md_conducts_73 : decode b_Md_conducts 73 = .ok (.iconst 0, 1) := by decide +kernel
theorem d_Md_conducts_74 : decode b_Md_conducts 74 = .ok (.goto 13, 3) := by decide +kernel
theorem d_Md_conducts_77 : decode b_Md_conducts 77 = .ok (.iload_n 3, 1) := by decide +kernel
theorem d_Md_conducts_78 : decode b_Md_conducts 78 = .ok (.iconst 2, 1) := by decide +kernel
theorem d_Md_conducts_79 : decode b_Md_conducts 79 = .ok (.if_icmp .eq 7, 3) := by decide +kernel
theorem d_Md_conducts_82 : decode b_Md_conducts 82 = .ok (.iconst 1, 1) := by decide +kernel
theorem d_Md_conducts_83 : decode b_Md_conducts 83 = .ok (.goto 4, 3) := by decide +kernel
theorem d_Md_conducts_86 : decode b_Md_conducts 86 = .ok (.iconst 0, 1) := by decide +kernel
theorem d_Md_conducts_87 : decode b_Md_conducts 87 = .ok (.ireturn, 1) := by decide +kernel
theorem d_Md_reach_0 : decode b_Md_reach 0 = .ok (.aload_n 0, 1) := by decide +kernel
theorem d_Md_reach_1 : decode b_Md_reach 1 = .ok (.iload_n 1, 1) := by decide +kernel
theorem d_Md_reach_2 : decode b_Md_reach 2 = .ok (.baload, 1) := by decide +kernel
theorem d_Md_reach_3 : decode b_Md_reach 3 = .ok (.ifCond .eq 13, 3) := by decide +kernel
theorem d_Md_reach_6 : decode b_Md_reach 6 = .ok (.aload_n 0, 1) := by decide +kernel
theorem d_Md_reach_7 : decode b_Md_reach 7 = .ok (.iload_n 2, 1) := by decide +kernel
theorem d_Md_reach_8 : decode b_Md_reach 8 = .ok (.baload, 1) := by decide +kernel
theorem d_Md_reach_9 : decode b_Md_reach 9 = .ok (.ifCond .ne 7, 3) := by decide +kernel
theorem d_Md_reach_12 : decode b_Md_reach 12 = .ok (.iconst 1, 1) := by decide +kernel
theorem d_Md_reach_13 : decode b_Md_reach 13 = .ok (.goto 4, 3) := by decide +kernel
theorem d_Md_reach_16 : decode b_Md_reach 16 = .ok (.iconst 0, 1) := by decide +kernel
theorem d_Md_reach_17 : decode b_Md_reach 17 = .ok (.istore_n 3, 1) := by decide +kernel
theorem d_Md_reach_18 : decode b_Md_reach 18 = .ok (.aload_n 0, 1) := by decide +kernel
theorem d_Md_reach_19 : decode b_Md_reach 19 = .ok (.iload_n 2, 1) := by decide +kernel
theorem d_Md_reach_20 : decode b_Md_reach 20 = .ok (.aload_n 0, 1) := by decide +kernel
theorem d_Md_reach_21 : decode b_Md_reach 21 = .ok (.iload_n 2, 1) := by decide +kernel
theorem d_Md_reach_22 : decode b_Md_reach 22 = .ok (.baload, 1) := by decide +kernel
theorem d_Md_reach_23 : decode b_Md_reach 23 = .ok (.ifCond .ne 7, 3) := by decide +kernel
theorem d_Md_reach_26 : decode b_Md_reach 26 = .ok (.iload_n 3, 1) := by decide +kernel
theorem d_Md_reach_27 : decode b_Md_reach 27 = .ok (.ifCond .eq 7, 3) := by decide +kernel
theorem d_Md_reach_30 : decode b_Md_reach 30 = .ok (.iconst 1, 1) := by decide +kernel
theorem d_Md_reach_31 : decode b_Md_reach 31 = .ok (.goto 4, 3) := by decide +kernel
theorem d_Md_reach_34 : decode b_Md_reach 34 = .ok (.iconst 0, 1) := by decide +kernel
theorem d_Md_reach_35 : decode b_Md_reach 35 = .ok (.bastore, 1) := by decide +kernel
theorem d_Md_reach_36 : decode b_Md_reach 36 = .ok (.iload_n 3, 1) := by decide +kernel
theorem d_Md_reach_37 : decode b_Md_reach 37 = .ok (.ireturn, 1) := by decide +kernel
theorem d_Md_contact_0 : decode b_Md_contact 0 = .ok (.iload_n 1, 1) := by decide +kernel
theorem d_Md_contact_1 : decode b_Md_contact 1 = .ok (.iconst 0, 1) := by decide +kernel
theorem d_Md_contact_2 : decode b_Md_contact 2 = .ok (.iconst 4, 1) := by decide +kernel
theorem d_Md_contact_3 : decode b_Md_contact 3 = .ok (.invokestatic 96, 3) := by decide +kernel
theorem d_Md_contact_6 : decode b_Md_contact 6 = .ok (.ifCond .eq 35, 3) := by decide +kernel
theorem d_Md_contact_9 : decode b_Md_contact 9 = .ok (.iload_n 3, 1) := by decide +kernel
theorem d_Md_contact_10 : decode b_Md_contact 10 = .ok (.iload 4, 2) := by decide +kernel
theorem d_Md_contact_12 : decode b_Md_contact 12 = .ok (.invokestatic 104, 3) := by decide +kernel
theorem d_Md_contact_15 : decode b_Md_contact 15 = .ok (.ifCond .eq 26, 3) := by decide +kernel
theorem d_Md_contact_18 : decode b_Md_contact 18 = .ok (.iload_n 1, 1) := by decide +kernel
theorem d_Md_contact_19 : decode b_Md_contact 19 = .ok (.iconst 4, 1) := by decide +kernel
theorem d_Md_contact_20 : decode b_Md_contact 20 = .ok (.if_icmp .eq 17, 3) := by decide +kernel
theorem d_Md_contact_23 : decode b_Md_contact 23 = .ok (.iload_n 2, 1) := by decide +kernel
theorem d_Md_contact_24 : decode b_Md_contact 24 = .ok (.iconst 0, 1) := by decide +kernel
theorem d_Md_contact_25 : decode b_Md_contact 25 = .ok (.aload_n 0, 1) := by decide +kernel
theorem d_Md_contact_26 : decode b_Md_contact 26 = .ok (.getfield 108, 3) := by decide +kernel
theorem d_Md_contact_29 : decode b_Md_contact 29 = .ok (.iconst 1, 1) := by decide +kernel
theorem d_Md_contact_30 : decode b_Md_contact 30 = .ok (.isub, 1) := by decide +kernel
theorem d_Md_contact_31 : decode b_Md_contact 31 = .ok (.invokestatic 96, 3) := by decide +kernel
theorem d_Md_contact_34 : decode b_Md_contact 34 = .ok (.ifCond .eq 7, 3) := by decide +kernel
theorem d_Md_contact_37 : decode b_Md_contact 37 = .ok (.iconst 1, 1) := by decide +kernel
theorem d_Md_contact_38 : decode b_Md_contact 38 = .ok (.goto 4, 3) := by decide +kernel
theorem d_Md_contact_41 : decode b_Md_contact 41 = .ok (.iconst 0, 1) := by decide +kernel
theorem d_Md_contact_42 : decode b_Md_contact 42 = .ok (.istore 5, 2) := by decide +kernel
theorem d_Md_contact_44 : decode b_Md_contact 44 = .ok (.aload_n 0, 1) := by decide +kernel
theorem d_Md_contact_45 : decode b_Md_contact 45 = .ok (.iload 5, 2) := by decide +kernel
theorem d_Md_contact_47 : decode b_Md_contact 47 = .ok (.ifCond .ne 7, 3) := by decide +kernel
theorem d_Md_contact_50 : decode b_Md_contact 50 = .ok (.iconst 1, 1) := by decide +kernel
theorem d_Md_contact_51 : decode b_Md_contact 51 = .ok (.goto 17, 3) := by decide +kernel
theorem d_Md_contact_54 : decode b_Md_contact 54 = .ok (.aload_n 0, 1) := by decide +kernel
theorem d_Md_contact_55 : decode b_Md_contact 55 = .ok (.getfield 114, 3) := by decide +kernel
theorem d_Md_contact_58 : decode b_Md_contact 58 = .ok (.bipush 64, 2) := by decide +kernel
theorem d_Md_contact_60 : decode b_Md_contact 60 = .ok (.if_icmp .ne 7, 3) := by decide +kernel
theorem d_Md_contact_63 : decode b_Md_contact 63 = .ok (.iconst 2, 1) := by decide +kernel
theorem d_Md_contact_64 : decode b_Md_contact 64 = .ok (.goto 4, 3) := by decide +kernel
theorem d_Md_contact_67 : decode b_Md_contact 67 = .ok (.iconst 0, 1) := by decide +kernel
theorem d_Md_contact_68 : decode b_Md_contact 68 = .ok (.putfield 92, 3) := by decide +kernel
theorem d_Md_contact_71 : decode b_Md_contact 71 = .ok (.aload_n 0, 1) := by decide +kernel
theorem d_Md_contact_72 : decode b_Md_contact 72 = .ok (.getfield 92, 3) := by decide +kernel
theorem d_Md_contact_75 : decode b_Md_contact 75 = .ok (.ifCond .le 5, 3) := by decide +kernel
theorem d_Md_contact_78 : decode b_Md_contact 78 = .ok (.iconst 0, 1) := by decide +kernel
theorem d_Md_contact_79 : decode b_Md_contact 79 = .ok (.ireturn, 1) := by decide +kernel
theorem d_Md_contact_80 : decode b_Md_contact 80 = .ok (.aload_n 0, 1) := by decide +kernel
theorem d_Md_contact_81 : decode b_Md_contact 81 = .ok (.getfield 31, 3) := by decide +kernel
theorem d_Md_contact_84 : decode b_Md_contact 84 = .ok (.aload_n 0, 1) := by decide +kernel
theorem d_Md_contact_85 : decode b_Md_contact 85 = .ok (.getfield 114, 3) := by decide +kernel
theorem d_Md_contact_88 : decode b_Md_contact 88 = .ok (.iload_n 1, 1) := by decide +kernel
theorem d_Md_contact_89 : decode b_Md_contact 89 = .ok (.iastore, 1) := by decide +kernel
theorem d_Md_contact_90 : decode b_Md_contact 90 = .ok (.aload_n 0, 1) := by decide +kernel
theorem d_Md_contact_91 : decode b_Md_contact 91 = .ok (.getfield 34, 3) := by decide +kernel
theorem d_Md_contact_94 : decode b_Md_contact 94 = .ok (.aload_n 0, 1) := by decide +kernel
theorem d_Md_contact_95 : decode b_Md_contact 95 = .ok (.getfield 114, 3) := by decide +kernel
theorem d_Md_contact_98 : decode b_Md_contact 98 = .ok (.iload_n 2, 1) := by decide +kernel
theorem d_Md_contact_99 : decode b_Md_contact 99 = .ok (.iastore, 1) := by decide +kernel
theorem d_Md_contact_100 : decode b_Md_contact 100 = .ok (.aload_n 0, 1) := by decide +kernel
theorem d_Md_contact_101 : decode b_Md_contact 101 = .ok (.getfield 37, 3) := by decide +kernel
theorem d_Md_contact_104 : decode b_Md_contact 104 = .ok (.aload_n 0, 1) := by decide +kernel
theorem d_Md_contact_105 : decode b_Md_contact 105 = .ok (.getfield 114, 3) := by decide +kernel
theorem d_Md_contact_108 : decode b_Md_contact 108 = .ok (.iload_n 3, 1) := by decide +kernel
theorem d_Md_contact_109 : decode b_Md_contact 109 = .ok (.iastore, 1) := by decide +kernel
theorem d_Md_contact_110 : decode b_Md_contact 110 = .ok (.aload_n 0, 1) := by decide +kernel
theorem d_Md_contact_111 : decode b_Md_contact 111 = .ok (.getfield 40, 3) := by decide +kernel
theorem d_Md_contact_114 : decode b_Md_contact 114 = .ok (.aload_n 0, 1) := by decide +kernel
theorem d_Md_contact_115 : decode b_Md_contact 115 = .ok (.getfield 114, 3) := by decide +kernel
theorem d_Md_contact_118 : decode b_Md_contact 118 = .ok (.iload 4, 2) := by decide +kernel
theorem d_Md_contact_120 : decode b_Md_contact 120 = .ok (.iastore, 1) := by decide +kernel
theorem d_Md_contact_121 : decode b_Md_contact 121 = .ok (.aload_n 0, 1) := by decide +kernel
theorem d_Md_contact_122 : decode b_Md_contact 122 = .ok (.dup, 1) := by decide +kernel
theorem d_Md_contact_123 : decode b_Md_contact 123 = .ok (.getfield 114, 3) := by decide +kernel
theorem d_Md_contact_126 : decode b_Md_contact 126 = .ok (.iconst 1, 1) := by decide +kernel
theorem d_Md_contact_127 : decode b_Md_contact 127 = .ok (.iadd, 1) := by decide +kernel
theorem d_Md_contact_128 : decode b_Md_contact 128 = .ok (.putfield 114, 3) := by decide +kernel
theorem d_Md_contact_131 : decode b_Md_contact 131 = .ok (.aload_n 0, 1) := by decide +kernel
theorem d_Md_contact_132 : decode b_Md_contact 132 = .ok (.invokevirtual 111, 3) := by decide +kernel
theorem d_Md_contact_135 : decode b_Md_contact 135 = .ok (.aload_n 0, 1) := by decide +kernel
theorem d_Md_contact_136 : decode b_Md_contact 136 = .ok (.getfield 114, 3) := by decide +kernel
theorem d_Md_contact_139 : decode b_Md_contact 139 = .ok (.iconst 1, 1) := by decide +kernel
theorem d_Md_contact_140 : decode b_Md_contact 140 = .ok (.isub, 1) := by decide +kernel
theorem d_Md_contact_141 : decode b_Md_contact 141 = .ok (.ireturn, 1) := by decide +kernel
theorem d_Md_knob_0 : decode b_Md_knob 0 = .ok (.aload_n 0, 1) := by decide +kernel
theorem d_Md_knob_1 : decode b_Md_knob 1 = .ok (.iload_n 1, 1) := by decide +kernel
theorem d_Md_knob_2 : decode b_Md_knob 2 = .ok (.iload_n 2, 1) := by decide +kernel
theorem d_Md_knob_3 : decode b_Md_knob 3 = .ok (.invokestatic 104, 3) := by decide +kernel
theorem d_Md_knob_6 : decode b_Md_knob 6 = .ok (.ifCond .ne 7, 3) := by decide +kernel
theorem d_Md_knob_9 : decode b_Md_knob 9 = .ok (.iconst 1, 1) := by decide +kernel
theorem d_Md_knob_10 : decode b_Md_knob 10 = .ok (.goto 17, 3) := by decide +kernel
theorem d_Md_knob_13 : decode b_Md_knob 13 = .ok (.aload_n 0, 1) := by decide +kernel
theorem d_Md_knob_14 : decode b_Md_knob 14 = .ok (.getfield 117, 3) := by decide +kernel
theorem d_Md_knob_17 : decode b_Md_knob 17 = .ok (.bipush 12, 2) := by decide +kernel
theorem d_Md_knob_19 : decode b_Md_knob 19 = .ok (.if_icmp .ne 7, 3) := by decide +kernel
theorem d_Md_knob_22 : decode b_Md_knob 22 = .ok (.iconst 2, 1) := by decide +kernel
theorem d_Md_knob_23 : decode b_Md_knob 23 = .ok (.goto 4, 3) := by decide +kernel
theorem d_Md_knob_26 : decode b_Md_knob 26 = .ok (.iconst 0, 1) := by decide +kernel
theorem d_Md_knob_27 : decode b_Md_knob 27 = .ok (.putfield 92, 3) := by decide +kernel
theorem d_Md_knob_30 : decode b_Md_knob 30 = .ok (.aload_n 0, 1) := by decide +kernel
theorem d_Md_knob_31 : decode b_Md_knob 31 = .ok (.getfield 92, 3) := by decide +kernel
theorem d_Md_knob_34 : decode b_Md_knob 34 = .ok (.ifCond .le 5, 3) := by decide +kernel
theorem d_Md_knob_37 : decode b_Md_knob 37 = .ok (.iconst 0, 1) := by decide +kernel
theorem d_Md_knob_38 : decode b_Md_knob 38 = .ok (.ireturn, 1) := by decide +kernel
theorem d_Md_knob_39 : decode b_Md_knob 39 = .ok (.aload_n 0, 1) := by decide +kernel
theorem d_Md_knob_40 : decode b_Md_knob 40 = .ok (.getfield 43, 3) := by decide +kernel
theorem d_Md_knob_43 : decode b_Md_knob 43 = .ok (.aload_n 0, 1) := by decide +kernel
theorem d_Md_knob_44 : decode b_Md_knob 44 = .ok (.getfield 117, 3) := by decide +kernel
theorem d_Md_knob_47 : decode b_Md_knob 47 = .ok (.iload_n 1, 1) := by decide +kernel
theorem d_Md_knob_48 : decode b_Md_knob 48 = .ok (.iastore, 1) := by decide +kernel
theorem d_Md_knob_49 : decode b_Md_knob 49 = .ok (.aload_n 0, 1) := by decide +kernel
theorem d_Md_knob_50 : decode b_Md_knob 50 = .ok (.getfield 46, 3) := by decide +kernel
theorem d_Md_knob_53 : decode b_Md_knob 53 = .ok (.aload_n 0, 1) := by decide +kernel
theorem d_Md_knob_54 : decode b_Md_knob 54 = .ok (.getfield 117, 3) := by decide +kernel
theorem d_Md_knob_57 : decode b_Md_knob 57 = .ok (.iload_n 2, 1) := by decide +kernel
theorem d_Md_knob_58 : decode b_Md_knob 58 = .ok (.iastore, 1) := by decide +kernel
theorem d_Md_knob_59 : decode b_Md_knob 59 = .ok (.aload_n 0, 1) := by decide +kernel
theorem d_Md_knob_60 : decode b_Md_knob 60 = .ok (.dup, 1) := by decide +kernel
theorem d_Md_knob_61 : decode b_Md_knob 61 = .ok (.getfield 117, 3) := by decide +kernel
theorem d_Md_knob_64 : decode b_Md_knob 64 = .ok (.iconst 1, 1) := by decide +kernel
theorem d_Md_knob_65 : decode b_Md_knob 65 = .ok (.iadd, 1) := by decide +kernel
theorem d_Md_knob_66 : decode b_Md_knob 66 = .ok (.putfield 117, 3) := by decide +kernel
theorem d_Md_knob_69 : decode b_Md_knob 69 = .ok (.aload_n 0, 1) := by decide +kernel
theorem d_Md_knob_70 : decode b_Md_knob 70 = .ok (.invokevirtual 111, 3) := by decide +kernel
theorem d_Md_knob_73 : decode b_Md_knob 73 = .ok (.aload_n 0, 1) := by decide +kernel
theorem d_Md_knob_74 : decode b_Md_knob 74 = .ok (.getfield 117, 3) := by decide +kernel
theorem d_Md_knob_77 : decode b_Md_knob 77 = .ok (.iconst 1, 1) := by decide +kernel
theorem d_Md_knob_78 : decode b_Md_knob 78 = .ok (.isub, 1) := by decide +kernel
theorem d_Md_knob_79 : decode b_Md_knob 79 = .ok (.ireturn, 1) := by decide +kernel
theorem d_Md_diode_0 : decode b_Md_diode 0 = .ok (.aload_n 0, 1) := by decide +kernel
theorem d_Md_diode_1 : decode b_Md_diode 1 = .ok (.iload_n 1, 1) := by decide +kernel
theorem d_Md_diode_2 : decode b_Md_diode 2 = .ok (.iload_n 2, 1) := by decide +kernel
theorem d_Md_diode_3 : decode b_Md_diode 3 = .ok (.invokestatic 104, 3) := by decide +kernel
theorem d_Md_diode_6 : decode b_Md_diode 6 = .ok (.ifCond .ne 7, 3) := by decide +kernel
theorem d_Md_diode_9 : decode b_Md_diode 9 = .ok (.iconst 1, 1) := by decide +kernel
theorem d_Md_diode_10 : decode b_Md_diode 10 = .ok (.goto 17, 3) := by decide +kernel
theorem d_Md_diode_13 : decode b_Md_diode 13 = .ok (.aload_n 0, 1) := by decide +kernel
theorem d_Md_diode_14 : decode b_Md_diode 14 = .ok (.getfield 120, 3) := by decide +kernel
theorem d_Md_diode_17 : decode b_Md_diode 17 = .ok (.bipush 24, 2) := by decide +kernel
theorem d_Md_diode_19 : decode b_Md_diode 19 = .ok (.if_icmp .ne 7, 3) := by decide +kernel
theorem d_Md_diode_22 : decode b_Md_diode 22 = .ok (.iconst 2, 1) := by decide +kernel
theorem d_Md_diode_23 : decode b_Md_diode 23 = .ok (.goto 4, 3) := by decide +kernel
theorem d_Md_diode_26 : decode b_Md_diode 26 = .ok (.iconst 0, 1) := by decide +kernel
theorem d_Md_diode_27 : decode b_Md_diode 27 = .ok (.putfield 92, 3) := by decide +kernel
theorem d_Md_diode_30 : decode b_Md_diode 30 = .ok (.aload_n 0, 1) := by decide +kernel
theorem d_Md_diode_31 : decode b_Md_diode 31 = .ok (.getfield 92, 3) := by decide +kernel
theorem d_Md_diode_34 : decode b_Md_diode 34 = .ok (.ifCond .le 5, 3) := by decide +kernel
theorem d_Md_diode_37 : decode b_Md_diode 37 = .ok (.iconst 0, 1) := by decide +kernel
theorem d_Md_diode_38 : decode b_Md_diode 38 = .ok (.ireturn, 1) := by decide +kernel
theorem d_Md_diode_39 : decode b_Md_diode 39 = .ok (.aload_n 0, 1) := by decide +kernel
theorem d_Md_diode_40 : decode b_Md_diode 40 = .ok (.getfield 53, 3) := by decide +kernel
theorem d_Md_diode_43 : decode b_Md_diode 43 = .ok (.aload_n 0, 1) := by decide +kernel
theorem d_Md_diode_44 : decode b_Md_diode 44 = .ok (.getfield 120, 3) := by decide +kernel
theorem d_Md_diode_47 : decode b_Md_diode 47 = .ok (.iload_n 1, 1) := by decide +kernel
theorem d_Md_diode_48 : decode b_Md_diode 48 = .ok (.iastore, 1) := by decide +kernel
theorem d_Md_diode_49 : decode b_Md_diode 49 = .ok (.aload_n 0, 1) := by decide +kernel
theorem d_Md_diode_50 : decode b_Md_diode 50 = .ok (.getfield 56, 3) := by decide +kernel
theorem d_Md_diode_53 : decode b_Md_diode 53 = .ok (.aload_n 0, 1) := by decide +kernel
theorem d_Md_diode_54 : decode b_Md_diode 54 = .ok (.getfield 120, 3) := by decide +kernel
theorem d_Md_diode_57 : decode b_Md_diode 57 = .ok (.iload_n 2, 1) := by decide +kernel
theorem d_Md_diode_58 : decode b_Md_diode 58 = .ok (.iastore, 1) := by decide +kernel
theorem d_Md_diode_59 : decode b_Md_diode 59 = .ok (.aload_n 0, 1) := by decide +kernel
theorem d_Md_diode_60 : decode b_Md_diode 60 = .ok (.dup, 1) := by decide +kernel
theorem d_Md_diode_61 : decode b_Md_diode 61 = .ok (.getfield 120, 3) := by decide +kernel
theorem d_Md_diode_64 : decode b_Md_diode 64 = .ok (.iconst 1, 1) := by decide +kernel
theorem d_Md_diode_65 : decode b_Md_diode 65 = .ok (.iadd, 1) := by decide +kernel
theorem d_Md_diode_66 : decode b_Md_diode 66 = .ok (.putfield 120, 3) := by decide +kernel
theorem d_Md_diode_69 : decode b_Md_diode 69 = .ok (.aload_n 0, 1) := by decide +kernel
theorem d_Md_diode_70 : decode b_Md_diode 70 = .ok (.invokevirtual 111, 3) := by decide +kernel
theorem d_Md_diode_73 : decode b_Md_diode 73 = .ok (.aload_n 0, 1) := by decide +kernel
theorem d_Md_diode_74 : decode b_Md_diode 74 = .ok (.getfield 120, 3) := by decide +kernel
theorem d_Md_diode_77 : decode b_Md_diode 77 = .ok (.iconst 1, 1) := by decide +kernel
theorem d_Md_diode_78 : decode b_Md_diode 78 = .ok (.isub, 1) := by decide +kernel
theorem d_Md_diode_79 : decode b_Md_diode 79 = .ok (.ireturn, 1) := by decide +kernel
theorem d_Md_lamp_0 : decode b_Md_lamp 0 = .ok (.aload_n 0, 1) := by decide +kernel
theorem d_Md_lamp_1 : decode b_Md_lamp 1 = .ok (.iload_n 1, 1) := by decide +kernel
theorem d_Md_lamp_2 : decode b_Md_lamp 2 = .ok (.iload_n 2, 1) := by decide +kernel
theorem d_Md_lamp_3 : decode b_Md_lamp 3 = .ok (.invokestatic 104, 3) := by decide +kernel
theorem d_Md_lamp_6 : decode b_Md_lamp 6 = .ok (.ifCond .ne 7, 3) := by decide +kernel
theorem d_Md_lamp_9 : decode b_Md_lamp 9 = .ok (.iconst 1, 1) := by decide +kernel
theorem d_Md_lamp_10 : decode b_Md_lamp 10 = .ok (.goto 17, 3) := by decide +kernel
theorem d_Md_lamp_13 : decode b_Md_lamp 13 = .ok (.aload_n 0, 1) := by decide +kernel
theorem d_Md_lamp_14 : decode b_Md_lamp 14 = .ok (.getfield 123, 3) := by decide +kernel
theorem d_Md_lamp_17 : decode b_Md_lamp 17 = .ok (.bipush 12, 2) := by decide +kernel
theorem d_Md_lamp_19 : decode b_Md_lamp 19 = .ok (.if_icmp .ne 7, 3) := by decide +kernel
theorem d_Md_lamp_22 : decode b_Md_lamp 22 = .ok (.iconst 2, 1) := by decide +kernel
theorem d_Md_lamp_23 : decode b_Md_lamp 23 = .ok (.goto 4, 3) := by decide +kernel
theorem d_Md_lamp_26 : decode b_Md_lamp 26 = .ok (.iconst 0, 1) := by decide +kernel
theorem d_Md_lamp_27 : decode b_Md_lamp 27 = .ok (.putfield 92, 3) := by decide +kernel
theorem d_Md_lamp_30 : decode b_Md_lamp 30 = .ok (.aload_n 0, 1) := by decide +kernel
theorem d_Md_lamp_31 : decode b_Md_lamp 31 = .ok (.getfield 92, 3) := by decide +kernel
theorem d_Md_lamp_34 : decode b_Md_lamp 34 = .ok (.ifCond .le 5, 3) := by decide +kernel
theorem d_Md_lamp_37 : decode b_Md_lamp 37 = .ok (.iconst 0, 1) := by decide +kernel
theorem d_Md_lamp_38 : decode b_Md_lamp 38 = .ok (.ireturn, 1) := by decide +kernel
theorem d_Md_lamp_39 : decode b_Md_lamp 39 = .ok (.aload_n 0, 1) := by decide +kernel
theorem d_Md_lamp_40 : decode b_Md_lamp 40 = .ok (.getfield 59, 3) := by decide +kernel
theorem d_Md_lamp_43 : decode b_Md_lamp 43 = .ok (.aload_n 0, 1) := by decide +kernel
theorem d_Md_lamp_44 : decode b_Md_lamp 44 = .ok (.getfield 123, 3) := by decide +kernel
theorem d_Md_lamp_47 : decode b_Md_lamp 47 = .ok (.iload_n 1, 1) := by decide +kernel
theorem d_Md_lamp_48 : decode b_Md_lamp 48 = .ok (.iastore, 1) := by decide +kernel
theorem d_Md_lamp_49 : decode b_Md_lamp 49 = .ok (.aload_n 0, 1) := by decide +kernel
theorem d_Md_lamp_50 : decode b_Md_lamp 50 = .ok (.getfield 62, 3) := by decide +kernel
theorem d_Md_lamp_53 : decode b_Md_lamp 53 = .ok (.aload_n 0, 1) := by decide +kernel
theorem d_Md_lamp_54 : decode b_Md_lamp 54 = .ok (.getfield 123, 3) := by decide +kernel
theorem d_Md_lamp_57 : decode b_Md_lamp 57 = .ok (.iload_n 2, 1) := by decide +kernel
theorem d_Md_lamp_58 : decode b_Md_lamp 58 = .ok (.iastore, 1) := by decide +kernel
theorem d_Md_lamp_59 : decode b_Md_lamp 59 = .ok (.aload_n 0, 1) := by decide +kernel
theorem d_Md_lamp_60 : decode b_Md_lamp 60 = .ok (.dup, 1) := by decide +kernel
theorem d_Md_lamp_61 : decode b_Md_lamp 61 = .ok (.getfield 123, 3) := by decide +kernel
theorem d_Md_lamp_64 : decode b_Md_lamp 64 = .ok (.iconst 1, 1) := by decide +kernel
theorem d_Md_lamp_65 : decode b_Md_lamp 65 = .ok (.iadd, 1) := by decide +kernel
theorem d_Md_lamp_66 : decode b_Md_lamp 66 = .ok (.putfield 123, 3) := by decide +kernel
theorem d_Md_lamp_69 : decode b_Md_lamp 69 = .ok (.aload_n 0, 1) := by decide +kernel
theorem d_Md_lamp_70 : decode b_Md_lamp 70 = .ok (.invokevirtual 111, 3) := by decide +kernel
theorem d_Md_lamp_73 : decode b_Md_lamp 73 = .ok (.aload_n 0, 1) := by decide +kernel
theorem d_Md_lamp_74 : decode b_Md_lamp 74 = .ok (.getfield 123, 3) := by decide +kernel
theorem d_Md_lamp_77 : decode b_Md_lamp 77 = .ok (.iconst 1, 1) := by decide +kernel
theorem d_Md_lamp_78 : decode b_Md_lamp 78 = .ok (.isub, 1) := by decide +kernel
theorem d_Md_lamp_79 : decode b_Md_lamp 79 = .ok (.ireturn, 1) := by decide +kernel
theorem d_Md_turn_0 : decode b_Md_turn 0 = .ok (.aload_n 0, 1) := by decide +kernel
theorem d_Md_turn_1 : decode b_Md_turn 1 = .ok (.iload_n 1, 1) := by decide +kernel
theorem d_Md_turn_2 : decode b_Md_turn 2 = .ok (.iconst 0, 1) := by decide +kernel
theorem d_Md_turn_3 : decode b_Md_turn 3 = .ok (.aload_n 0, 1) := by decide +kernel
theorem d_Md_turn_4 : decode b_Md_turn 4 = .ok (.getfield 117, 3) := by decide +kernel
theorem d_Md_turn_7 : decode b_Md_turn 7 = .ok (.iconst 1, 1) := by decide +kernel
theorem d_Md_turn_8 : decode b_Md_turn 8 = .ok (.isub, 1) := by decide +kernel
theorem d_Md_turn_9 : decode b_Md_turn 9 = .ok (.invokestatic 96, 3) := by decide +kernel
theorem d_Md_turn_12 : decode b_Md_turn 12 = .ok (.ifCond .eq 7, 3) := by decide +kernel
theorem d_Md_turn_15 : decode b_Md_turn 15 = .ok (.iconst 0, 1) := by decide +kernel
theorem d_Md_turn_16 : decode b_Md_turn 16 = .ok (.goto 4, 3) := by decide +kernel
theorem d_Md_turn_19 : decode b_Md_turn 19 = .ok (.iconst 1, 1) := by decide +kernel
theorem d_Md_turn_20 : decode b_Md_turn 20 = .ok (.putfield 92, 3) := by decide +kernel
theorem d_Md_turn_23 : decode b_Md_turn 23 = .ok (.aload_n 0, 1) := by decide +kernel
theorem d_Md_turn_24 : decode b_Md_turn 24 = .ok (.getfield 92, 3) := by decide +kernel
theorem d_Md_turn_27 : decode b_Md_turn 27 = .ok (.ifCond .le 5, 3) := by decide +kernel
theorem d_Md_turn_30 : decode b_Md_turn 30 = .ok (.iconst 0, 1) := by decide +kernel
theorem d_Md_turn_31 : decode b_Md_turn 31 = .ok (.ireturn, 1) := by decide +kernel
theorem d_Md_turn_32 : decode b_Md_turn 32 = .ok (.aload_n 0, 1) := by decide +kernel
theorem d_Md_turn_33 : decode b_Md_turn 33 = .ok (.getfield 49, 3) := by decide +kernel
theorem d_Md_turn_36 : decode b_Md_turn 36 = .ok (.iload_n 1, 1) := by decide +kernel
theorem d_Md_turn_37 : decode b_Md_turn 37 = .ok (.baload, 1) := by decide +kernel
theorem d_Md_turn_38 : decode b_Md_turn 38 = .ok (.iload_n 2, 1) := by decide +kernel
theorem d_Md_turn_39 : decode b_Md_turn 39 = .ok (.if_icmp .eq 7, 3) := by decide +kernel
theorem d_Md_turn_42 : decode b_Md_turn 42 = .ok (.iconst 1, 1) := by decide +kernel
theorem d_Md_turn_43 : decode b_Md_turn 43 = .ok (.goto 4, 3) := by decide +kernel
theorem d_Md_turn_46 : decode b_Md_turn 46 = .ok (.iconst 0, 1) := by decide +kernel
theorem d_Md_turn_47 : decode b_Md_turn 47 = .ok (.istore_n 3, 1) := by decide +kernel
theorem d_Md_turn_48 : decode b_Md_turn 48 = .ok (.aload_n 0, 1) := by decide +kernel
theorem d_Md_turn_49 : decode b_Md_turn 49 = .ok (.getfield 49, 3) := by decide +kernel
theorem d_Md_turn_52 : decode b_Md_turn 52 = .ok (.iload_n 1, 1) := by decide +kernel
theorem d_Md_turn_53 : decode b_Md_turn 53 = .ok (.iload_n 2, 1) := by decide +kernel
theorem d_Md_turn_54 : decode b_Md_turn 54 = .ok (.bastore, 1) := by decide +kernel
theorem d_Md_turn_55 : decode b_Md_turn 55 = .ok (.aload_n 0, 1) := by decide +kernel
theorem d_Md_turn_56 : decode b_Md_turn 56 = .ok (.invokevirtual 111, 3) := by decide +kernel
theorem d_Md_turn_59 : decode b_Md_turn 59 = .ok (.iload_n 3, 1) := by decide +kernel
theorem d_Md_turn_60 : decode b_Md_turn 60 = .ok (.ireturn, 1) := by decide +kernel
theorem d_Md_dial_0 : decode b_Md_dial 0 = .ok (.aload_n 0, 1) := by decide +kernel
theorem d_Md_dial_1 : decode b_Md_dial 1 = .ok (.iload_n 1, 1) := by decide +kernel
theorem d_Md_dial_2 : decode b_Md_dial 2 = .ok (.iconst 0, 1) := by decide +kernel
theorem d_Md_dial_3 : decode b_Md_dial 3 = .ok (.aload_n 0, 1) := by decide +kernel
theorem d_Md_dial_4 : decode b_Md_dial 4 = .ok (.getfield 117, 3) := by decide +kernel
theorem d_Md_dial_7 : decode b_Md_dial 7 = .ok (.invokestatic 96, 3) := by decide +kernel
theorem d_Md_dial_10 : decode b_Md_dial 10 = .ok (.ifCond .eq 37, 3) := by decide +kernel
theorem d_Md_dial_13 : decode b_Md_dial 13 = .ok (.iload_n 2, 1) := by decide +kernel
theorem d_Md_dial_14 : decode b_Md_dial 14 = .ok (.iconst 0, 1) := by decide +kernel
theorem d_Md_dial_15 : decode b_Md_dial 15 = .ok (.aload_n 0, 1) := by decide +kernel
theorem d_Md_dial_16 : decode b_Md_dial 16 = .ok (.getfield 117, 3) := by decide +kernel
theorem d_Md_dial_19 : decode b_Md_dial 19 = .ok (.iload_n 1, 1) := by decide +kernel
theorem d_Md_dial_20 : decode b_Md_dial 20 = .ok (.iconst 0, 1) := by decide +kernel
theorem d_Md_dial_21 : decode b_Md_dial 21 = .ok (.aload_n 0, 1) := by decide +kernel
theorem d_Md_dial_22 : decode b_Md_dial 22 = .ok (.getfield 117, 3) := by decide +kernel
theorem d_Md_dial_25 : decode b_Md_dial 25 = .ok (.invokestatic 96, 3) := by decide +kernel
theorem d_Md_dial_28 : decode b_Md_dial 28 = .ok (.ifCond .eq 7, 3) := by decide +kernel
theorem d_Md_dial_31 : decode b_Md_dial 31 = .ok (.iload_n 1, 1) := by decide +kernel
theorem d_Md_dial_32 : decode b_Md_dial 32 = .ok (.goto 4, 3) := by decide +kernel
theorem d_Md_dial_35 : decode b_Md_dial 35 = .ok (.iconst 0, 1) := by decide +kernel
theorem d_Md_dial_36 : decode b_Md_dial 36 = .ok (.isub, 1) := by decide +kernel
theorem d_Md_dial_37 : decode b_Md_dial 37 = .ok (.invokestatic 96, 3) := by decide +kernel
theorem d_Md_dial_40 : decode b_Md_dial 40 = .ok (.ifCond .eq 7, 3) := by decide +kernel
theorem d_Md_dial_43 : decode b_Md_dial 43 = .ok (.iconst 0, 1) := by decide +kernel
theorem d_Md_dial_44 : decode b_Md_dial 44 = .ok (.goto 4, 3) := by decide +kernel
theorem d_Md_dial_47 : decode b_Md_dial 47 = .ok (.iconst 1, 1) := by decide +kernel
theorem d_Md_dial_48 : decode b_Md_dial 48 = .ok (.putfield 92, 3) := by decide +kernel
theorem d_Md_dial_51 : decode b_Md_dial 51 = .ok (.aload_n 0, 1) := by decide +kernel
theorem d_Md_dial_52 : decode b_Md_dial 52 = .ok (.getfield 92, 3) := by decide +kernel
theorem d_Md_dial_55 : decode b_Md_dial 55 = .ok (.ifCond .le 4, 3) := by decide +kernel
theorem d_Md_dial_58 : decode b_Md_dial 58 = .ok (.return_, 1) := by decide +kernel
theorem d_Md_dial_59 : decode b_Md_dial 59 = .ok (.iconst 0, 1) := by decide +kernel
theorem d_Md_dial_60 : decode b_Md_dial 60 = .ok (.istore 4, 2) := by decide +kernel
theorem d_Md_dial_62 : decode b_Md_dial 62 = .ok (.iload 4, 2) := by decide +kernel
theorem d_Md_dial_64 : decode b_Md_dial 64 = .ok (.iload_n 2, 1) := by decide +kernel
theorem d_Md_dial_65 : decode b_Md_dial 65 = .ok (.if_icmp .ge 33, 3) := by decide +kernel
theorem d_Md_dial_68 : decode b_Md_dial 68 = .ok (.aload_n 0, 1) := by decide +kernel
theorem d_Md_dial_69 : decode b_Md_dial 69 = .ok (.getfield 49, 3) := by decide +kernel
theorem d_Md_dial_72 : decode b_Md_dial 72 = .ok (.iload_n 1, 1) := by decide +kernel
theorem d_Md_dial_73 : decode b_Md_dial 73 = .ok (.iload 4, 2) := by decide +kernel
theorem d_Md_dial_75 : decode b_Md_dial 75 = .ok (.iadd, 1) := by decide +kernel
theorem d_Md_dial_76 : decode b_Md_dial 76 = .ok (.iload_n 3, 1) := by decide +kernel
theorem d_Md_dial_77 : decode b_Md_dial 77 = .ok (.iload 4, 2) := by decide +kernel
theorem d_Md_dial_79 : decode b_Md_dial 79 = .ok (.ishr, 1) := by decide +kernel
theorem d_Md_dial_80 : decode b_Md_dial 80 = .ok (.iconst 1, 1) := by decide +kernel
theorem d_Md_dial_81 : decode b_Md_dial 81 = .ok (.iand, 1) := by decide +kernel
theorem d_Md_dial_82 : decode b_Md_dial 82 = .ok (.iconst 1, 1) := by decide +kernel
theorem d_Md_dial_83 : decode b_Md_dial 83 = .ok (.if_icmp .ne 7, 3) := by decide +kernel
theorem d_Md_dial_86 : decode b_Md_dial 86 = .ok (.iconst 1, 1) := by decide +kernel
theorem d_Md_dial_87 : decode b_Md_dial 87 = .ok (.goto 4, 3) := by decide +kernel
theorem d_Md_dial_90 : decode b_Md_dial 90 = .ok (.iconst 0, 1) := by decide +kernel
theorem d_Md_dial_91 : decode b_Md_dial 91 = .ok (.bastore, 1) := by decide +kernel
theorem d_Md_dial_92 : decode b_Md_dial 92 = .ok (.iinc 4 1, 3) := by decide +kernel
theorem d_Md_dial_95 : decode b_Md_dial 95 = .ok (.goto (-33), 3) := by decide +kernel
theorem d_Md_dial_98 : decode b_Md_dial 98 = .ok (.aload_n 0, 1) := by decide +kernel
theorem d_Md_dial_99 : decode b_Md_dial 99 = .ok (.invokevirtual 111, 3) := by decide +kernel
theorem d_Md_dial_102 : decode b_Md_dial 102 = .ok (.return_, 1) := by decide +kernel
theorem d_Md_tick_0 : decode b_Md_tick 0 = .ok (.aload_n 0, 1) := by decide +kernel
theorem d_Md_tick_1 : decode b_Md_tick 1 = .ok (.iload_n 1, 1) := by decide +kernel
theorem d_Md_tick_2 : decode b_Md_tick 2 = .ok (.iconst 1, 1) := by decide +kernel
theorem d_Md_tick_3 : decode b_Md_tick 3 = .ok (.sipush 500, 3) := by decide +kernel
theorem d_Md_tick_6 : decode b_Md_tick 6 = .ok (.invokestatic 96, 3) := by decide +kernel
theorem d_Md_tick_9 : decode b_Md_tick 9 = .ok (.ifCond .eq 7, 3) := by decide +kernel
theorem d_Md_tick_12 : decode b_Md_tick 12 = .ok (.iconst 0, 1) := by decide +kernel
theorem d_Md_tick_13 : decode b_Md_tick 13 = .ok (.goto 4, 3) := by decide +kernel
theorem d_Md_tick_16 : decode b_Md_tick 16 = .ok (.iconst 1, 1) := by decide +kernel
theorem d_Md_tick_17 : decode b_Md_tick 17 = .ok (.putfield 92, 3) := by decide +kernel
theorem d_Md_tick_20 : decode b_Md_tick 20 = .ok (.aload_n 0, 1) := by decide +kernel
theorem d_Md_tick_21 : decode b_Md_tick 21 = .ok (.getfield 92, 3) := by decide +kernel
theorem d_Md_tick_24 : decode b_Md_tick 24 = .ok (.ifCond .le 5, 3) := by decide +kernel
theorem d_Md_tick_27 : decode b_Md_tick 27 = .ok (.iconst 0, 1) := by decide +kernel
theorem d_Md_tick_28 : decode b_Md_tick 28 = .ok (.ireturn, 1) := by decide +kernel
theorem d_Md_tick_29 : decode b_Md_tick 29 = .ok (.iconst 0, 1) := by decide +kernel
theorem d_Md_tick_30 : decode b_Md_tick 30 = .ok (.istore_n 2, 1) := by decide +kernel
theorem d_Md_tick_31 : decode b_Md_tick 31 = .ok (.iconst 0, 1) := by decide +kernel
theorem d_Md_tick_32 : decode b_Md_tick 32 = .ok (.istore_n 3, 1) := by decide +kernel
theorem d_Md_tick_33 : decode b_Md_tick 33 = .ok (.iload_n 3, 1) := by decide +kernel
theorem d_Md_tick_34 : decode b_Md_tick 34 = .ok (.iload_n 1, 1) := by decide +kernel
theorem d_Md_tick_35 : decode b_Md_tick 35 = .ok (.if_icmp .ge 24, 3) := by decide +kernel
theorem d_Md_tick_38 : decode b_Md_tick 38 = .ok (.iload_n 2, 1) := by decide +kernel
theorem d_Md_tick_39 : decode b_Md_tick 39 = .ok (.aload_n 0, 1) := by decide +kernel
theorem d_Md_tick_40 : decode b_Md_tick 40 = .ok (.invokevirtual 177, 3) := by decide +kernel
theorem d_Md_tick_43 : decode b_Md_tick 43 = .ok (.ifCond .eq 7, 3) := by decide +kernel
theorem d_Md_tick_46 : decode b_Md_tick 46 = .ok (.iconst 1, 1) := by decide +kernel
theorem d_Md_tick_47 : decode b_Md_tick 47 = .ok (.goto 4, 3) := by decide +kernel
theorem d_Md_tick_50 : decode b_Md_tick 50 = .ok (.iconst 0, 1) := by decide +kernel
theorem d_Md_tick_51 : decode b_Md_tick 51 = .ok (.iadd, 1) := by decide +kernel
theorem d_Md_tick_52 : decode b_Md_tick 52 = .ok (.istore_n 2, 1) := by decide +kernel
theorem d_Md_tick_53 : decode b_Md_tick 53 = .ok (.iinc 3 1, 3) := by decide +kernel
theorem d_Md_tick_56 : decode b_Md_tick 56 = .ok (.goto (-23), 3) := by decide +kernel
theorem d_Md_tick_59 : decode b_Md_tick 59 = .ok (.aload_n 0, 1) := by decide +kernel
theorem d_Md_tick_60 : decode b_Md_tick 60 = .ok (.dup, 1) := by decide +kernel
theorem d_Md_tick_61 : decode b_Md_tick 61 = .ok (.getfield 171, 3) := by decide +kernel
theorem d_Md_tick_64 : decode b_Md_tick 64 = .ok (.iload_n 1, 1) := by decide +kernel
theorem d_Md_tick_65 : decode b_Md_tick 65 = .ok (.iadd, 1) := by decide +kernel
theorem d_Md_tick_66 : decode b_Md_tick 66 = .ok (.putfield 171, 3) := by decide +kernel
theorem d_Md_tick_69 : decode b_Md_tick 69 = .ok (.iload_n 2, 1) := by decide +kernel
theorem d_Md_tick_70 : decode b_Md_tick 70 = .ok (.ireturn, 1) := by decide +kernel
theorem d_Md_tickOne_0 : decode b_Md_tickOne 0 = .ok (.aload_n 0, 1) := by decide +kernel
theorem d_Md_tickOne_1 : decode b_Md_tickOne 1 = .ok (.getfield 137, 3) := by decide +kernel
theorem d_Md_tickOne_4 : decode b_Md_tickOne 4 = .ok (.istore_n 1, 1) := by decide +kernel
theorem d_Md_tickOne_5 : decode b_Md_tickOne 5 = .ok (.aload_n 0, 1) := by decide +kernel
theorem d_Md_tickOne_6 : decode b_Md_tickOne 6 = .ok (.invokevirtual 111, 3) := by decide +kernel
theorem d_Md_tickOne_9 : decode b_Md_tickOne 9 = .ok (.aload_n 0, 1) := by decide +kernel
theorem d_Md_tickOne_10 : decode b_Md_tickOne 10 = .ok (.getfield 137, 3) := by decide +kernel
theorem d_Md_tickOne_13 : decode b_Md_tickOne 13 = .ok (.iload_n 1, 1) := by decide +kernel
theorem d_Md_tickOne_14 : decode b_Md_tickOne 14 = .ok (.if_icmp .eq 7, 3) := by decide +kernel
theorem d_Md_tickOne_17 : decode b_Md_tickOne 17 = .ok (.iconst 1, 1) := by decide +kernel
theorem d_Md_tickOne_18 : decode b_Md_tickOne 18 = .ok (.goto 4, 3) := by decide +kernel
theorem d_Md_tickOne_21 : decode b_Md_tickOne 21 = .ok (.iconst 0, 1) := by decide +kernel
theorem d_Md_tickOne_22 : decode b_Md_tickOne 22 = .ok (.istore_n 2, 1) := by decide +kernel
theorem d_Md_tickOne_23 : decode b_Md_tickOne 23 = .ok (.iconst 0, 1) := by decide +kernel
theorem d_Md_tickOne_24 : decode b_Md_tickOne 24 = .ok (.istore_n 3, 1) := by decide +kernel
theorem d_Md_tickOne_25 : decode b_Md_tickOne 25 = .ok (.iload_n 3, 1) := by decide +kernel
theorem d_Md_tickOne_26 : decode b_Md_tickOne 26 = .ok (.aload_n 0, 1) := by decide +kernel
theorem d_Md_tickOne_27 : decode b_Md_tickOne 27 = .ok (.getfield 108, 3) := by decide +kernel
theorem d_Md_tickOne_30 : decode b_Md_tickOne 30 = .ok (.if_icmp .ge 43, 3) := by decide +kernel
theorem d_Md_tickOne_33 : decode b_Md_tickOne 33 = .ok (.aload_n 0, 1) := by decide +kernel
theorem d_Md_tickOne_34 : decode b_Md_tickOne 34 = .ok (.iload_n 3, 1) := by decide +kernel
theorem d_Md_tickOne_35 : decode b_Md_tickOne 35 = .ok (.aload_n 0, 1) := by decide +kernel
theorem d_Md_tickOne_36 : decode b_Md_tickOne 36 = .ok (.aload_n 0, 1) := by decide +kernel
theorem d_Md_tickOne_37 : decode b_Md_tickOne 37 = .ok (.getfield 7, 3) := by decide +kernel
theorem d_Md_tickOne_40 : decode b_Md_tickOne 40 = .ok (.iload_n 3, 1) := by decide +kernel
theorem d_Md_tickOne_41 : decode b_Md_tickOne 41 = .ok (.iaload, 1) := by decide +kernel
theorem d_Md_tickOne_42 : decode b_Md_tickOne 42 = .ok (.aload_n 0, 1) := by decide +kernel
theorem d_Md_tickOne_43 : decode b_Md_tickOne 43 = .ok (.getfield 13, 3) := by decide +kernel
theorem d_Md_tickOne_46 : decode b_Md_tickOne 46 = .ok (.iload_n 3, 1) := by decide +kernel
theorem d_Md_tickOne_47 : decode b_Md_tickOne 47 = .ok (.iaload, 1) := by decide +kernel
theorem d_Md_tickOne_48 : decode b_Md_tickOne 48 = .ok (.invokevirtual 147, 3) := by decide +kernel
theorem d_Md_tickOne_51 : decode b_Md_tickOne 51 = .ok (.invokevirtual 150, 3) := by decide +kernel
theorem d_Md_tickOne_54 : decode b_Md_tickOne 54 = .ok (.ifCond .ne 7, 3) := by decide +kernel
theorem d_Md_tickOne_57 : decode b_Md_tickOne 57 = .ok (.iload_n 2, 1) := by decide +kernel
theorem d_Md_tickOne_58 : decode b_Md_tickOne 58 = .ok (.ifCond .eq 7, 3) := by decide +kernel
theorem d_Md_tickOne_61 : decode b_Md_tickOne 61 = .ok (.iconst 1, 1) := by decide +kernel
theorem d_Md_tickOne_62 : decode b_Md_tickOne 62 = .ok (.goto 4, 3) := by decide +kernel
theorem d_Md_tickOne_65 : decode b_Md_tickOne 65 = .ok (.iconst 0, 1) := by decide +kernel
theorem d_Md_tickOne_66 : decode b_Md_tickOne 66 = .ok (.istore_n 2, 1) := by decide +kernel
theorem d_Md_tickOne_67 : decode b_Md_tickOne 67 = .ok (.iinc 3 1, 3) := by decide +kernel
theorem d_Md_tickOne_70 : decode b_Md_tickOne 70 = .ok (.goto (-45), 3) := by decide +kernel
theorem d_Md_tickOne_73 : decode b_Md_tickOne 73 = .ok (.iload_n 2, 1) := by decide +kernel
theorem d_Md_tickOne_74 : decode b_Md_tickOne 74 = .ok (.ireturn, 1) := by decide +kernel
theorem d_Md_hasCurrent_0 : decode b_Md_hasCurrent 0 = .ok (.aload_n 0, 1) := by decide +kernel
theorem d_Md_hasCurrent_1 : decode b_Md_hasCurrent 1 = .ok (.getfield 137, 3) := by decide +kernel
theorem d_Md_hasCurrent_4 : decode b_Md_hasCurrent 4 = .ok (.ifCond .ne 43, 3) := by decide +kernel
theorem d_Md_hasCurrent_7 : decode b_Md_hasCurrent 7 = .ok (.aload_n 0, 1) := by decide +kernel
theorem d_Md_hasCurrent_8 : decode b_Md_hasCurrent 8 = .ok (.getfield 65, 3) := by decide +kernel
theorem d_Md_hasCurrent_11 : decode b_Md_hasCurrent 11 = .ok (.iload_n 1, 1) := by decide +kernel
theorem d_Md_hasCurrent_12 : decode b_Md_hasCurrent 12 = .ok (.baload, 1) := by decide +kernel
theorem d_Md_hasCurrent_13 : decode b_Md_hasCurrent 13 = .ok (.ifCond .eq 12, 3) := by decide +kernel
theorem d_Md_hasCurrent_16 : decode b_Md_hasCurrent 16 = .ok (.aload_n 0, 1) := by decide +kernel
theorem d_Md_hasCurrent_17 : decode b_Md_hasCurrent 17 = .ok (.getfield 68, 3) := by decide +kernel
theorem d_Md_hasCurrent_20 : decode b_Md_hasCurrent 20 = .ok (.iload_n 2, 1) := by decide +kernel
theorem d_Md_hasCurrent_21 : decode b_Md_hasCurrent 21 = .ok (.baload, 1) := by decide +kernel
theorem d_Md_hasCurrent_22 : decode b_Md_hasCurrent 22 = .ok (.ifCond .ne 21, 3) := by decide +kernel
theorem d_Md_hasCurrent_25 : decode b_Md_hasCurrent 25 = .ok (.aload_n 0, 1) := by decide +kernel
theorem d_Md_hasCurrent_26 : decode b_Md_hasCurrent 26 = .ok (.getfield 65, 3) := by decide +kernel
theorem d_Md_hasCurrent_29 : decode b_Md_hasCurrent 29 = .ok (.iload_n 2, 1) := by decide +kernel
theorem d_Md_hasCurrent_30 : decode b_Md_hasCurrent 30 = .ok (.baload, 1) := by decide +kernel
theorem d_Md_hasCurrent_31 : decode b_Md_hasCurrent 31 = .ok (.ifCond .eq 16, 3) := by decide +kernel
theorem d_Md_hasCurrent_34 : decode b_Md_hasCurrent 34 = .ok (.aload_n 0, 1) := by decide +kernel
theorem d_Md_hasCurrent_35 : decode b_Md_hasCurrent 35 = .ok (.getfield 68, 3) := by decide +kernel
theorem d_Md_hasCurrent_38 : decode b_Md_hasCurrent 38 = .ok (.iload_n 1, 1) := by decide +kernel
theorem d_Md_hasCurrent_39 : decode b_Md_hasCurrent 39 = .ok (.baload, 1) := by decide +kernel
theorem d_Md_hasCurrent_40 : decode b_Md_hasCurrent 40 = .ok (.ifCond .eq 7, 3) := by decide +kernel
theorem d_Md_hasCurrent_43 : decode b_Md_hasCurrent 43 = .ok (.iconst 1, 1) := by decide +kernel
theorem d_Md_hasCurrent_44 : decode b_Md_hasCurrent 44 = .ok (.goto 4, 3) := by decide +kernel
theorem d_Md_hasCurrent_47 : decode b_Md_hasCurrent 47 = .ok (.iconst 0, 1) := by decide +kernel
theorem d_Md_hasCurrent_48 : decode b_Md_hasCurrent 48 = .ok (.ireturn, 1) := by decide +kernel
theorem d_Md_move_0 : decode b_Md_move 0 = .ok (.aload_n 0, 1) := by decide +kernel
theorem d_Md_move_1 : decode b_Md_move 1 = .ok (.getfield 22, 3) := by decide +kernel
theorem d_Md_move_4 : decode b_Md_move 4 = .ok (.iload_n 1, 1) := by decide +kernel
theorem d_Md_move_5 : decode b_Md_move 5 = .ok (.iaload, 1) := by decide +kernel
theorem d_Md_move_6 : decode b_Md_move 6 = .ok (.istore_n 3, 1) := by decide +kernel
theorem d_Md_move_7 : decode b_Md_move 7 = .ok (.aload_n 0, 1) := by decide +kernel
theorem d_Md_move_8 : decode b_Md_move 8 = .ok (.getfield 25, 3) := by decide +kernel
theorem d_Md_move_11 : decode b_Md_move 11 = .ok (.iload_n 1, 1) := by decide +kernel
theorem d_Md_move_12 : decode b_Md_move 12 = .ok (.iaload, 1) := by decide +kernel
theorem d_Md_move_13 : decode b_Md_move 13 = .ok (.istore 4, 2) := by decide +kernel
theorem d_Md_move_15 : decode b_Md_move 15 = .ok (.iload_n 2, 1) := by decide +kernel
theorem d_Md_move_16 : decode b_Md_move 16 = .ok (.ifCond .eq 41, 3) := by decide +kernel
theorem d_Md_move_19 : decode b_Md_move 19 = .ok (.iload_n 3, 1) := by decide +kernel
theorem d_Md_move_20 : decode b_Md_move 20 = .ok (.ifCond .eq 8, 3) := by decide +kernel
theorem d_Md_move_23 : decode b_Md_move 23 = .ok (.iload_n 3, 1) := by decide +kernel
theorem d_Md_move_24 : decode b_Md_move 24 = .ok (.iconst 1, 1) := by decide +kernel
theorem d_Md_move_25 : decode b_Md_move 25 = .ok (.if_icmp .ne 23, 3) := by decide +kernel
theorem d_Md_move_28 : decode b_Md_move 28 = .ok (.aload_n 0, 1) := by decide +kernel
theorem d_Md_move_29 : decode b_Md_move 29 = .ok (.iload_n 1, 1) := by decide +kernel
theorem d_Md_move_30 : decode b_Md_move 30 = .ok (.iload_n 3, 1) := by decide +kernel
theorem d_Md_move_31 : decode b_Md_move 31 = .ok (.ifCond .ne 7, 3) := by decide +kernel
theorem d_Md_move_34 : decode b_Md_move 34 = .ok (.iconst 1, 1) := by decide +kernel
theorem d_Md_move_35 : decode b_Md_move 35 = .ok (.goto 7, 3) := by decide +kernel
theorem d_Md_move_38 : decode b_Md_move 38 = .ok (.iload 4, 2) := by decide +kernel
theorem d_Md_move_40 : decode b_Md_move 40 = .ok (.iconst 1, 1) := by decide +kernel
theorem d_Md_move_41 : decode b_Md_move 41 = .ok (.iadd, 1) := by decide +kernel
theorem d_Md_move_42 : decode b_Md_move 42 = .ok (.invokevirtual 154, 3) := by decide +kernel
theorem d_Md_move_45 : decode b_Md_move 45 = .ok (.goto 49, 3) := by decide +kernel
theorem d_Md_move_48 : decode b_Md_move 48 = .ok (.aload_n 0, 1) := by decide +kernel
theorem d_Md_move_49 : decode b_Md_move 49 = .ok (.iload_n 1, 1) := by decide +kernel
theorem d_Md_move_50 : decode b_Md_move 50 = .ok (.iconst 2, 1) := by decide +kernel
theorem d_Md_move_51 : decode b_Md_move 51 = .ok (.invokevirtual 158, 3) := by decide +kernel
theorem d_Md_move_54 : decode b_Md_move 54 = .ok (.goto 40, 3) := by decide +kernel
theorem d_Md_move_57 : decode b_Md_move 57 = .ok (.iload_n 3, 1) := by decide +kernel
theorem d_Md_move_58 : decode b_Md_move 58 = .ok (.iconst 2, 1) := by decide +kernel
theorem d_Md_move_59 : decode b_Md_move 59 = .ok (.if_icmp .eq 8, 3) := by decide +kernel
theorem d_Md_move_62 : decode b_Md_move 62 = .ok (.iload_n 3, 1) := by decide +kernel
theorem d_Md_move_63 : decode b_Md_move 63 = .ok (.iconst 3, 1) := by decide +kernel
theorem d_Md_move_64 : decode b_Md_move 64 = .ok (.if_icmp .ne 24, 3) := by decide +kernel
theorem d_Md_move_67 : decode b_Md_move 67 = .ok (.aload_n 0, 1) := by decide +kernel
theorem d_Md_move_68 : decode b_Md_move 68 = .ok (.iload_n 1, 1) := by decide +kernel
theorem d_Md_move_69 : decode b_Md_move 69 = .ok (.iload_n 3, 1) := by decide +kernel
theorem d_Md_move_70 : decode b_Md_move 70 = .ok (.iconst 2, 1) := by decide +kernel
theorem d_Md_move_71 : decode b_Md_move 71 = .ok (.if_icmp .ne 7, 3) := by decide +kernel
theorem d_Md_move_74 : decode b_Md_move 74 = .ok (.iconst 1, 1) := by decide +kernel
theorem d_Md_move_75 : decode b_Md_move 75 = .ok (.goto 7, 3) := by decide +kernel
theorem d_Md_move_78 : decode b_Md_move 78 = .ok (.iload 4, 2) := by decide +kernel
theorem d_Md_move_80 : decode b_Md_move 80 = .ok (.iconst 1, 1) := by decide +kernel
theorem d_Md_move_81 : decode b_Md_move 81 = .ok (.iadd, 1) := by decide +kernel
theorem d_Md_move_82 : decode b_Md_move 82 = .ok (.invokevirtual 161, 3) := by decide +kernel
theorem d_Md_move_85 : decode b_Md_move 85 = .ok (.goto 9, 3) := by decide +kernel
theorem d_Md_move_88 : decode b_Md_move 88 = .ok (.aload_n 0, 1) := by decide +kernel
theorem d_Md_move_89 : decode b_Md_move 89 = .ok (.iload_n 1, 1) := by decide +kernel
theorem d_Md_move_90 : decode b_Md_move 90 = .ok (.iconst 0, 1) := by decide +kernel
theorem d_Md_move_91 : decode b_Md_move 91 = .ok (.invokevirtual 158, 3) := by decide +kernel
theorem d_Md_move_94 : decode b_Md_move 94 = .ok (.aload_n 0, 1) := by decide +kernel
theorem d_Md_move_95 : decode b_Md_move 95 = .ok (.getfield 22, 3) := by decide +kernel
theorem d_Md_move_98 : decode b_Md_move 98 = .ok (.iload_n 1, 1) := by decide +kernel
theorem d_Md_move_99 : decode b_Md_move 99 = .ok (.iaload, 1) := by decide +kernel
theorem d_Md_move_100 : decode b_Md_move 100 = .ok (.iload_n 3, 1) := by decide +kernel
theorem d_Md_move_101 : decode b_Md_move 101 = .ok (.if_icmp .ne 14, 3) := by decide +kernel
theorem d_Md_move_104 : decode b_Md_move 104 = .ok (.aload_n 0, 1) := by decide +kernel
theorem d_Md_move_105 : decode b_Md_move 105 = .ok (.getfield 25, 3) := by decide +kernel
theorem d_Md_move_108 : decode b_Md_move 108 = .ok (.iload_n 1, 1) := by decide +kernel
theorem d_Md_move_109 : decode b_Md_move 109 = .ok (.iaload, 1) := by decide +kernel
theorem d_Md_move_110 : decode b_Md_move 110 = .ok (.iload 4, 2) := by decide +kernel
theorem d_Md_move_112 : decode b_Md_move 112 = .ok (.if_icmp .eq 7, 3) := by decide +kernel
theorem d_Md_move_115 : decode b_Md_move 115 = .ok (.iconst 1, 1) := by decide +kernel
theorem d_Md_move_116 : decode b_Md_move 116 = .ok (.goto 4, 3) := by decide +kernel
theorem d_Md_move_119 : decode b_Md_move 119 = .ok (.iconst 0, 1) := by decide +kernel
theorem d_Md_move_120 : decode b_Md_move 120 = .ok (.ireturn, 1) := by decide +kernel
theorem d_Md_rise_0 : decode b_Md_rise 0 = .ok (.aload_n 0, 1) := by decide +kernel
theorem d_Md_rise_1 : decode b_Md_rise 1 = .ok (.getfield 22, 3) := by decide +kernel
theorem d_Md_rise_4 : decode b_Md_rise 4 = .ok (.iload_n 1, 1) := by decide +kernel
theorem d_Md_rise_5 : decode b_Md_rise 5 = .ok (.iconst 1, 1) := by decide +kernel
theorem d_Md_rise_6 : decode b_Md_rise 6 = .ok (.iastore, 1) := by decide +kernel
theorem d_Md_rise_7 : decode b_Md_rise 7 = .ok (.aload_n 0, 1) := by decide +kernel
theorem d_Md_rise_8 : decode b_Md_rise 8 = .ok (.getfield 25, 3) := by decide +kernel
theorem d_Md_rise_11 : decode b_Md_rise 11 = .ok (.iload_n 1, 1) := by decide +kernel
theorem d_Md_rise_12 : decode b_Md_rise 12 = .ok (.iload_n 2, 1) := by decide +kernel
theorem d_Md_rise_13 : decode b_Md_rise 13 = .ok (.iastore, 1) := by decide +kernel
theorem d_Md_rise_14 : decode b_Md_rise 14 = .ok (.iload_n 2, 1) := by decide +kernel
theorem d_Md_rise_15 : decode b_Md_rise 15 = .ok (.aload_n 0, 1) := by decide +kernel
theorem d_Md_rise_16 : decode b_Md_rise 16 = .ok (.getfield 16, 3) := by decide +kernel
theorem d_Md_rise_19 : decode b_Md_rise 19 = .ok (.iload_n 1, 1) := by decide +kernel
theorem d_Md_rise_20 : decode b_Md_rise 20 = .ok (.iaload, 1) := by decide +kernel
theorem d_Md_rise_21 : decode b_Md_rise 21 = .ok (.aload_n 0, 1) := by decide +kernel
theorem d_Md_rise_22 : decode b_Md_rise 22 = .ok (.iload_n 1, 1) := by decide +kernel
theorem d_Md_rise_23 : decode b_Md_rise 23 = .ok (.invokevirtual 164, 3) := by decide +kernel
theorem d_Md_rise_26 : decode b_Md_rise 26 = .ok (.iadd, 1) := by decide +kernel
theorem d_Md_rise_27 : decode b_Md_rise 27 = .ok (.if_icmp .ge 4, 3) := by decide +kernel
theorem d_Md_rise_30 : decode b_Md_rise 30 = .ok (.return_, 1) := by decide +kernel
theorem d_Md_rise_31 : decode b_Md_rise 31 = .ok (.aload_n 0, 1) := by decide +kernel
theorem d_Md_rise_32 : decode b_Md_rise 32 = .ok (.iload_n 1, 1) := by decide +kernel
theorem d_Md_rise_33 : decode b_Md_rise 33 = .ok (.iconst 2, 1) := by decide +kernel
theorem d_Md_rise_34 : decode b_Md_rise 34 = .ok (.invokevirtual 158, 3) := by decide +kernel
theorem d_Md_rise_37 : decode b_Md_rise 37 = .ok (.aload_n 0, 1) := by decide +kernel
theorem d_Md_rise_38 : decode b_Md_rise 38 = .ok (.getfield 28, 3) := by decide +kernel
theorem d_Md_rise_41 : decode b_Md_rise 41 = .ok (.iload_n 1, 1) := by decide +kernel
theorem d_Md_rise_42 : decode b_Md_rise 42 = .ok (.dup2, 1) := by decide +kernel
theorem d_Md_rise_43 : decode b_Md_rise 43 = .ok (.iaload, 1) := by decide +kernel
theorem d_Md_rise_44 : decode b_Md_rise 44 = .ok (.iconst 1, 1) := by decide +kernel
theorem d_Md_rise_45 : decode b_Md_rise 45 = .ok (.iadd, 1) := by decide +kernel
theorem d_Md_rise_46 : decode b_Md_rise 46 = .ok (.iastore, 1) := by decide +kernel
theorem d_Md_rise_47 : decode b_Md_rise 47 = .ok (.return_, 1) := by decide +kernel
theorem d_Md_more_0 : decode b_Md_more 0 = .ok (.aload_n 0, 1) := by decide +kernel
theorem d_Md_more_1 : decode b_Md_more 1 = .ok (.getfield 144, 3) := by decide +kernel
theorem d_Md_more_4 : decode b_Md_more 4 = .ok (.iload_n 1, 1) := by decide +kernel
theorem d_Md_more_5 : decode b_Md_more 5 = .ok (.ishr, 1) := by decide +kernel
theorem d_Md_more_6 : decode b_Md_more 6 = .ok (.iconst 1, 1) := by decide +kernel
theorem d_Md_more_7 : decode b_Md_more 7 = .ok (.iand, 1) := by decide +kernel
theorem d_Md_more_8 : decode b_Md_more 8 = .ok (.ireturn, 1) := by decide +kernel
theorem d_Md_hold_0 : decode b_Md_hold 0 = .ok (.aload_n 0, 1) := by decide +kernel
theorem d_Md_hold_1 : decode b_Md_hold 1 = .ok (.getfield 22, 3) := by decide +kernel
theorem d_Md_hold_4 : decode b_Md_hold 4 = .ok (.iload_n 1, 1) := by decide +kernel
theorem d_Md_hold_5 : decode b_Md_hold 5 = .ok (.iload_n 2, 1) := by decide +kernel
theorem d_Md_hold_6 : decode b_Md_hold 6 = .ok (.iastore, 1) := by decide +kernel
theorem d_Md_hold_7 : decode b_Md_hold 7 = .ok (.aload_n 0, 1) := by decide +kernel
theorem d_Md_hold_8 : decode b_Md_hold 8 = .ok (.getfield 25, 3) := by decide +kernel
theorem d_Md_hold_11 : decode b_Md_hold 11 = .ok (.iload_n 1, 1) := by decide +kernel
theorem d_Md_hold_12 : decode b_Md_hold 12 = .ok (.iconst 0, 1) := by decide +kernel
theorem d_Md_hold_13 : decode b_Md_hold 13 = .ok (.iastore, 1) := by decide +kernel
theorem d_Md_hold_14 : decode b_Md_hold 14 = .ok (.return_, 1) := by decide +kernel
theorem d_Md_fall_0 : decode b_Md_fall 0 = .ok (.aload_n 0, 1) := by decide +kernel
theorem d_Md_fall_1 : decode b_Md_fall 1 = .ok (.getfield 22, 3) := by decide +kernel
theorem d_Md_fall_4 : decode b_Md_fall 4 = .ok (.iload_n 1, 1) := by decide +kernel
theorem d_Md_fall_5 : decode b_Md_fall 5 = .ok (.iconst 3, 1) := by decide +kernel
theorem d_Md_fall_6 : decode b_Md_fall 6 = .ok (.iastore, 1) := by decide +kernel
theorem d_Md_fall_7 : decode b_Md_fall 7 = .ok (.aload_n 0, 1) := by decide +kernel
theorem d_Md_fall_8 : decode b_Md_fall 8 = .ok (.getfield 25, 3) := by decide +kernel
theorem d_Md_fall_11 : decode b_Md_fall 11 = .ok (.iload_n 1, 1) := by decide +kernel
theorem d_Md_fall_12 : decode b_Md_fall 12 = .ok (.iload_n 2, 1) := by decide +kernel
theorem d_Md_fall_13 : decode b_Md_fall 13 = .ok (.iastore, 1) := by decide +kernel
theorem d_Md_fall_14 : decode b_Md_fall 14 = .ok (.iload_n 2, 1) := by decide +kernel
theorem d_Md_fall_15 : decode b_Md_fall 15 = .ok (.aload_n 0, 1) := by decide +kernel
theorem d_Md_fall_16 : decode b_Md_fall 16 = .ok (.getfield 19, 3) := by decide +kernel
theorem d_Md_fall_19 : decode b_Md_fall 19 = .ok (.iload_n 1, 1) := by decide +kernel
theorem d_Md_fall_20 : decode b_Md_fall 20 = .ok (.iaload, 1) := by decide +kernel
theorem d_Md_fall_21 : decode b_Md_fall 21 = .ok (.aload_n 0, 1) := by decide +kernel
theorem d_Md_fall_22 : decode b_Md_fall 22 = .ok (.iload_n 1, 1) := by decide +kernel
theorem d_Md_fall_23 : decode b_Md_fall 23 = .ok (.invokevirtual 164, 3) := by decide +kernel
theorem d_Md_fall_26 : decode b_Md_fall 26 = .ok (.iadd, 1) := by decide +kernel
theorem d_Md_fall_27 : decode b_Md_fall 27 = .ok (.if_icmp .lt 9, 3) := by decide +kernel
theorem d_Md_fall_30 : decode b_Md_fall 30 = .ok (.aload_n 0, 1) := by decide +kernel
theorem d_Md_fall_31 : decode b_Md_fall 31 = .ok (.iload_n 1, 1) := by decide +kernel
theorem d_Md_fall_32 : decode b_Md_fall 32 = .ok (.iconst 0, 1) := by decide +kernel
theorem d_Md_fall_33 : decode b_Md_fall 33 = .ok (.invokevirtual 158, 3) := by decide +kernel
theorem d_Md_fall_36 : decode b_Md_fall 36 = .ok (.return_, 1) := by decide +kernel
theorem d_Md_settle_0 : decode b_Md_settle 0 = .ok (.aload_n 0, 1) := by decide +kernel
theorem d_Md_settle_1 : decode b_Md_settle 1 = .ok (.iload_n 1, 1) := by decide +kernel
theorem d_Md_settle_2 : decode b_Md_settle 2 = .ok (.iconst 0, 1) := by decide +kernel
theorem d_Md_settle_3 : decode b_Md_settle 3 = .ok (.sipush 500, 3) := by decide +kernel
theorem d_Md_settle_6 : decode b_Md_settle 6 = .ok (.invokestatic 96, 3) := by decide +kernel
theorem d_Md_settle_9 : decode b_Md_settle 9 = .ok (.ifCond .eq 7, 3) := by decide +kernel
theorem d_Md_settle_12 : decode b_Md_settle 12 = .ok (.iconst 0, 1) := by decide +kernel
theorem d_Md_settle_13 : decode b_Md_settle 13 = .ok (.goto 4, 3) := by decide +kernel
theorem d_Md_settle_16 : decode b_Md_settle 16 = .ok (.iconst 1, 1) := by decide +kernel
theorem d_Md_settle_17 : decode b_Md_settle 17 = .ok (.putfield 92, 3) := by decide +kernel
theorem d_Md_settle_20 : decode b_Md_settle 20 = .ok (.aload_n 0, 1) := by decide +kernel
theorem d_Md_settle_21 : decode b_Md_settle 21 = .ok (.getfield 92, 3) := by decide +kernel
theorem d_Md_settle_24 : decode b_Md_settle 24 = .ok (.ifCond .le 5, 3) := by decide +kernel
theorem d_Md_settle_27 : decode b_Md_settle 27 = .ok (.iconst 0, 1) := by decide +kernel
theorem d_Md_settle_28 : decode b_Md_settle 28 = .ok (.ireturn, 1) := by decide +kernel
theorem d_Md_settle_29 : decode b_Md_settle 29 = .ok (.aload_n 0, 1) := by decide +kernel
theorem d_Md_settle_30 : decode b_Md_settle 30 = .ok (.invokevirtual 181, 3) := by decide +kernel
theorem d_Md_settle_33 : decode b_Md_settle 33 = .ok (.aload_n 0, 1) := by decide +kernel
theorem d_Md_settle_34 : decode b_Md_settle 34 = .ok (.iload_n 1, 1) := by decide +kernel
theorem d_Md_settle_35 : decode b_Md_settle 35 = .ok (.invokevirtual 184, 3) := by decide +kernel
theorem d_Md_settle_38 : decode b_Md_settle 38 = .ok (.istore_n 2, 1) := by decide +kernel
theorem d_Md_settle_39 : decode b_Md_settle 39 = .ok (.iload_n 2, 1) := by decide +kernel
theorem d_Md_settle_40 : decode b_Md_settle 40 = .ok (.iconst (-1), 1) := by decide +kernel
theorem d_Md_settle_41 : decode b_Md_settle 41 = .ok (.if_icmp .ne 14, 3) := by decide +kernel
theorem d_Md_settle_44 : decode b_Md_settle 44 = .ok (.aload_n 0, 1) := by decide +kernel
theorem d_Md_settle_45 : decode b_Md_settle 45 = .ok (.invokevirtual 187, 3) := by decide +kernel
theorem d_Md_settle_48 : decode b_Md_settle 48 = .ok (.aload_n 0, 1) := by decide +kernel
theorem d_Md_settle_49 : decode b_Md_settle 49 = .ok (.iconst 2, 1) := by decide +kernel
theorem d_Md_settle_50 : decode b_Md_settle 50 = .ok (.putfield 92, 3) := by decide +kernel
theorem d_Md_settle_53 : decode b_Md_settle 53 = .ok (.iconst 0, 1) := by decide +kernel
theorem d_Md_settle_54 : decode b_Md_settle 54 = .ok (.ireturn, 1) := by decide +kernel
theorem d_Md_settle_55 : decode b_Md_settle 55 = .ok (.aload_n 0, 1) := by decide +kernel
theorem d_Md_settle_56 : decode b_Md_settle 56 = .ok (.dup, 1) := by decide +kernel
theorem d_Md_settle_57 : decode b_Md_settle 57 = .ok (.getfield 171, 3) := by decide +kernel
theorem d_Md_settle_60 : decode b_Md_settle 60 = .ok (.iload_n 2, 1) := by decide +kernel
theorem d_Md_settle_61 : decode b_Md_settle 61 = .ok (.iadd, 1) := by decide +kernel
theorem d_Md_settle_62 : decode b_Md_settle 62 = .ok (.putfield 171, 3) := by decide +kernel
theorem d_Md_settle_65 : decode b_Md_settle 65 = .ok (.iload_n 2, 1) := by decide +kernel
theorem d_Md_settle_66 : decode b_Md_settle 66 = .ok (.ireturn, 1) := by decide +kernel
theorem d_Md_keep_0 : decode b_Md_keep 0 = .ok (.iconst 0, 1) := by decide +kernel
theorem d_Md_keep_1 : decode b_Md_keep 1 = .ok (.istore_n 1, 1) := by decide +kernel
theorem d_Md_keep_2 : decode b_Md_keep 2 = .ok (.iload_n 1, 1) := by decide +kernel
theorem d_Md_keep_3 : decode b_Md_keep 3 = .ok (.bipush 16, 2) := by decide +kernel
theorem d_Md_keep_5 : decode b_Md_keep 5 = .ok (.if_icmp .ge 45, 3) := by decide +kernel
theorem d_Md_keep_8 : decode b_Md_keep 8 = .ok (.aload_n 0, 1) := by decide +kernel
theorem d_Md_keep_9 : decode b_Md_keep 9 = .ok (.getfield 71, 3) := by decide +kernel
theorem d_Md_keep_12 : decode b_Md_keep 12 = .ok (.iload_n 1, 1) := by decide +kernel
theorem d_Md_keep_13 : decode b_Md_keep 13 = .ok (.aload_n 0, 1) := by decide +kernel
theorem d_Md_keep_14 : decode b_Md_keep 14 = .ok (.getfield 22, 3) := by decide +kernel
theorem d_Md_keep_17 : decode b_Md_keep 17 = .ok (.iload_n 1, 1) := by decide +kernel
theorem d_Md_keep_18 : decode b_Md_keep 18 = .ok (.iaload, 1) := by decide +kernel
theorem d_Md_keep_19 : decode b_Md_keep 19 = .ok (.iastore, 1) := by decide +kernel
theorem d_Md_keep_20 : decode b_Md_keep 20 = .ok (.aload_n 0, 1) := by decide +kernel
theorem d_Md_keep_21 : decode b_Md_keep 21 = .ok (.getfield 74, 3) := by decide +kernel
theorem d_Md_keep_24 : decode b_Md_keep 24 = .ok (.iload_n 1, 1) := by decide +kernel
theorem d_Md_keep_25 : decode b_Md_keep 25 = .ok (.aload_n 0, 1) := by decide +kernel
theorem d_Md_keep_26 : decode b_Md_keep 26 = .ok (.getfield 25, 3) := by decide +kernel
theorem d_Md_keep_29 : decode b_Md_keep 29 = .ok (.iload_n 1, 1) := by decide +kernel
theorem d_Md_keep_30 : decode b_Md_keep 30 = .ok (.iaload, 1) := by decide +kernel
theorem d_Md_keep_31 : decode b_Md_keep 31 = .ok (.iastore, 1) := by decide +kernel
theorem d_Md_keep_32 : decode b_Md_keep 32 = .ok (.aload_n 0, 1) := by decide +kernel
theorem d_Md_keep_33 : decode b_Md_keep 33 = .ok (.getfield 77, 3) := by decide +kernel
theorem d_Md_keep_36 : decode b_Md_keep 36 = .ok (.iload_n 1, 1) := by decide +kernel
theorem d_Md_keep_37 : decode b_Md_keep 37 = .ok (.aload_n 0, 1) := by decide +kernel
theorem d_Md_keep_38 : decode b_Md_keep 38 = .ok (.getfield 28, 3) := by decide +kernel
theorem d_Md_keep_41 : decode b_Md_keep 41 = .ok (.iload_n 1, 1) := by decide +kernel
theorem d_Md_keep_42 : decode b_Md_keep 42 = .ok (.iaload, 1) := by decide +kernel
theorem d_Md_keep_43 : decode b_Md_keep 43 = .ok (.iastore, 1) := by decide +kernel
theorem d_Md_keep_44 : decode b_Md_keep 44 = .ok (.iinc 1 1, 3) := by decide +kernel
theorem d_Md_keep_47 : decode b_Md_keep 47 = .ok (.goto (-45), 3) := by decide +kernel
theorem d_Md_keep_50 : decode b_Md_keep 50 = .ok (.aload_n 0, 1) := by decide +kernel
theorem d_Md_keep_51 : decode b_Md_keep 51 = .ok (.aload_n 0, 1) := by decide +kernel
theorem d_Md_keep_52 : decode b_Md_keep 52 = .ok (.getfield 137, 3) := by decide +kernel
theorem d_Md_keep_55 : decode b_Md_keep 55 = .ok (.putfield 168, 3) := by decide +kernel
theorem d_Md_keep_58 : decode b_Md_keep 58 = .ok (.aload_n 0, 1) := by decide +kernel
theorem d_Md_keep_59 : decode b_Md_keep 59 = .ok (.aload_n 0, 1) := by decide +kernel
theorem d_Md_keep_60 : decode b_Md_keep 60 = .ok (.getfield 171, 3) := by decide +kernel
theorem d_Md_keep_63 : decode b_Md_keep 63 = .ok (.putfield 174, 3) := by decide +kernel
theorem d_Md_keep_66 : decode b_Md_keep 66 = .ok (.return_, 1) := by decide +kernel
theorem d_Md_run_0 : decode b_Md_run 0 = .ok (.iconst 0, 1) := by decide +kernel
theorem d_Md_run_1 : decode b_Md_run 1 = .ok (.istore_n 2, 1) := by decide +kernel
theorem d_Md_run_2 : decode b_Md_run 2 = .ok (.aload_n 0, 1) := by decide +kernel
theorem d_Md_run_3 : decode b_Md_run 3 = .ok (.invokevirtual 177, 3) := by decide +kernel
theorem d_Md_run_6 : decode b_Md_run 6 = .ok (.istore_n 3, 1) := by decide +kernel
theorem d_Md_run_7 : decode b_Md_run 7 = .ok (.iload_n 3, 1) := by decide +kernel
theorem d_Md_run_8 : decode b_Md_run 8 = .ok (.ifCond .eq 19, 3) := by decide +kernel
theorem d_Md_run_11 : decode b_Md_run 11 = .ok (.iload_n 2, 1) := by decide +kernel
theorem d_Md_run_12 : decode b_Md_run 12 = .ok (.iload_n 1, 1) := by decide +kernel
theorem d_Md_run_13 : decode b_Md_run 13 = .ok (.if_icmp .ge 14, 3) := by decide +kernel
theorem d_Md_run_16 : decode b_Md_run 16 = .ok (.iinc 2 1, 3) := by decide +kernel
theorem d_Md_run_19 : decode b_Md_run 19 = .ok (.aload_n 0, 1) := by decide +kernel
theorem d_Md_run_20 : decode b_Md_run 20 = .ok (.invokevirtual 177, 3) := by decide +kernel
theorem d_Md_run_23 : decode b_Md_run 23 = .ok (.istore_n 3, 1) := by decide +kernel
theorem d_Md_run_24 : decode b_Md_run 24 = .ok (.goto (-17), 3) := by decide +kernel
theorem d_Md_run_27 : decode b_Md_run 27 = .ok (.iload_n 3, 1) := by decide +kernel
theorem d_Md_run_28 : decode b_Md_run 28 = .ok (.ifCond .eq 7, 3) := by decide +kernel
theorem d_Md_run_31 : decode b_Md_run 31 = .ok (.iconst (-1), 1) := by decide +kernel
theorem d_Md_run_32 : decode b_Md_run 32 = .ok (.goto 4, 3) := by decide +kernel
theorem d_Md_run_35 : decode b_Md_run 35 = .ok (.iload_n 2, 1) := by decide +kernel
theorem d_Md_run_36 : decode b_Md_run 36 = .ok (.ireturn, 1) := by decide +kernel
theorem d_Md_layBack_0 : decode b_Md_layBack 0 = .ok (.iconst 0, 1) := by decide +kernel
theorem d_Md_layBack_1 : decode b_Md_layBack 1 = .ok (.istore_n 1, 1) := by decide +kernel
theorem d_Md_layBack_2 : decode b_Md_layBack 2 = .ok (.iload_n 1, 1) := by decide +kernel
theorem d_Md_layBack_3 : decode b_Md_layBack 3 = .ok (.bipush 16, 2) := by decide +kernel
theorem d_Md_layBack_5 : decode b_Md_layBack 5 = .ok (.if_icmp .ge 45, 3) := by decide +kernel
theorem d_Md_layBack_8 : decode b_Md_layBack 8 = .ok (.aload_n 0, 1) := by decide +kernel
theorem d_Md_layBack_9 : decode b_Md_layBack 9 = .ok (.getfield 22, 3) := by decide +kernel
theorem d_Md_layBack_12 : decode b_Md_layBack 12 = .ok (.iload_n 1, 1) := by decide +kernel
theorem d_Md_layBack_13 : decode b_Md_layBack 13 = .ok (.aload_n 0, 1) := by decide +kernel
theorem d_Md_layBack_14 : decode b_Md_layBack 14 = .ok (.getfield 71, 3) := by decide +kernel
theorem d_Md_layBack_17 : decode b_Md_layBack 17 = .ok (.iload_n 1, 1) := by decide +kernel
theorem d_Md_layBack_18 : decode b_Md_layBack 18 = .ok (.iaload, 1) := by decide +kernel
theorem d_Md_layBack_19 : decode b_Md_layBack 19 = .ok (.iastore, 1) := by decide +kernel
theorem d_Md_layBack_20 : decode b_Md_layBack 20 = .ok (.aload_n 0, 1) := by decide +kernel
theorem d_Md_layBack_21 : decode b_Md_layBack 21 = .ok (.getfield 25, 3) := by decide +kernel
theorem d_Md_layBack_24 : decode b_Md_layBack 24 = .ok (.iload_n 1, 1) := by decide +kernel
theorem d_Md_layBack_25 : decode b_Md_layBack 25 = .ok (.aload_n 0, 1) := by decide +kernel
theorem d_Md_layBack_26 : decode b_Md_layBack 26 = .ok (.getfield 74, 3) := by decide +kernel
theorem d_Md_layBack_29 : decode b_Md_layBack 29 = .ok (.iload_n 1, 1) := by decide +kernel
theorem d_Md_layBack_30 : decode b_Md_layBack 30 = .ok (.iaload, 1) := by decide +kernel
theorem d_Md_layBack_31 : decode b_Md_layBack 31 = .ok (.iastore, 1) := by decide +kernel
theorem d_Md_layBack_32 : decode b_Md_layBack 32 = .ok (.aload_n 0, 1) := by decide +kernel
theorem d_Md_layBack_33 : decode b_Md_layBack 33 = .ok (.getfield 28, 3) := by decide +kernel
theorem d_Md_layBack_36 : decode b_Md_layBack 36 = .ok (.iload_n 1, 1) := by decide +kernel
theorem d_Md_layBack_37 : decode b_Md_layBack 37 = .ok (.aload_n 0, 1) := by decide +kernel
theorem d_Md_layBack_38 : decode b_Md_layBack 38 = .ok (.getfield 77, 3) := by decide +kernel
theorem d_Md_layBack_41 : decode b_Md_layBack 41 = .ok (.iload_n 1, 1) := by decide +kernel
theorem d_Md_layBack_42 : decode b_Md_layBack 42 = .ok (.iaload, 1) := by decide +kernel
theorem d_Md_layBack_43 : decode b_Md_layBack 43 = .ok (.iastore, 1) := by decide +kernel
theorem d_Md_layBack_44 : decode b_Md_layBack 44 = .ok (.iinc 1 1, 3) := by decide +kernel
theorem d_Md_layBack_47 : decode b_Md_layBack 47 = .ok (.goto (-45), 3) := by decide +kernel
theorem d_Md_layBack_50 : decode b_Md_layBack 50 = .ok (.aload_n 0, 1) := by decide +kernel
theorem d_Md_layBack_51 : decode b_Md_layBack 51 = .ok (.aload_n 0, 1) := by decide +kernel
theorem d_Md_layBack_52 : decode b_Md_layBack 52 = .ok (.getfield 168, 3) := by decide +kernel
theorem d_Md_layBack_55 : decode b_Md_layBack 55 = .ok (.putfield 137, 3) := by decide +kernel
theorem d_Md_layBack_58 : decode b_Md_layBack 58 = .ok (.aload_n 0, 1) := by decide +kernel
theorem d_Md_layBack_59 : decode b_Md_layBack 59 = .ok (.aload_n 0, 1) := by decide +kernel
theorem d_Md_layBack_60 : decode b_Md_layBack 60 = .ok (.getfield 174, 3) := by decide +kernel
theorem d_Md_layBack_63 : decode b_Md_layBack 63 = .ok (.putfield 171, 3) := by decide +kernel
theorem d_Md_layBack_66 : decode b_Md_layBack 66 = .ok (.return_, 1) := by decide +kernel
theorem d_Md_circle_0 : decode b_Md_circle 0 = .ok (.aload_n 0, 1) := by decide +kernel
theorem d_Md_circle_1 : decode b_Md_circle 1 = .ok (.iload_n 1, 1) := by decide +kernel
theorem d_Md_circle_2 : decode b_Md_circle 2 = .ok (.iconst 1, 1) := by decide +kernel
theorem d_Md_circle_3 : decode b_Md_circle 3 = .ok (.sipush 500, 3) := by decide +kernel
theorem d_Md_circle_6 : decode b_Md_circle 6 = .ok (.invokestatic 96, 3) := by decide +kernel
theorem d_Md_circle_9 : decode b_Md_circle 9 = .ok (.ifCond .eq 7, 3) := by decide +kernel
theorem d_Md_circle_12 : decode b_Md_circle 12 = .ok (.iconst 0, 1) := by decide +kernel
theorem d_Md_circle_13 : decode b_Md_circle 13 = .ok (.goto 4, 3) := by decide +kernel
theorem d_Md_circle_16 : decode b_Md_circle 16 = .ok (.iconst 1, 1) := by decide +kernel
theorem d_Md_circle_17 : decode b_Md_circle 17 = .ok (.putfield 92, 3) := by decide +kernel
theorem d_Md_circle_20 : decode b_Md_circle 20 = .ok (.aload_n 0, 1) := by decide +kernel
theorem d_Md_circle_21 : decode b_Md_circle 21 = .ok (.getfield 92, 3) := by decide +kernel
theorem d_Md_circle_24 : decode b_Md_circle 24 = .ok (.ifCond .le 5, 3) := by decide +kernel
theorem d_Md_circle_27 : decode b_Md_circle 27 = .ok (.iconst 0, 1) := by decide +kernel
theorem d_Md_circle_28 : decode b_Md_circle 28 = .ok (.ireturn, 1) := by decide +kernel
theorem d_Md_circle_29 : decode b_Md_circle 29 = .ok (.aload_n 0, 1) := by decide +kernel
theorem d_Md_circle_30 : decode b_Md_circle 30 = .ok (.invokevirtual 181, 3) := by decide +kernel
theorem d_Md_circle_33 : decode b_Md_circle 33 = .ok (.aload_n 0, 1) := by decide +kernel
theorem d_Md_circle_34 : decode b_Md_circle 34 = .ok (.iconst 0, 1) := by decide +kernel
theorem d_Md_circle_35 : decode b_Md_circle 35 = .ok (.invokevirtual 193, 3) := by decide +kernel
theorem d_Md_circle_38 : decode b_Md_circle 38 = .ok (.iconst (-1), 1) := by decide +kernel
theorem d_Md_circle_39 : decode b_Md_circle 39 = .ok (.istore_n 2, 1) := by decide +kernel
theorem d_Md_circle_40 : decode b_Md_circle 40 = .ok (.iconst 0, 1) := by decide +kernel
theorem d_Md_circle_41 : decode b_Md_circle 41 = .ok (.istore_n 3, 1) := by decide +kernel
theorem d_Md_circle_42 : decode b_Md_circle 42 = .ok (.iload_n 2, 1) := by decide +kernel
theorem d_Md_circle_43 : decode b_Md_circle 43 = .ok (.iconst (-1), 1) := by decide +kernel
theorem d_Md_circle_44 : decode b_Md_circle 44 = .ok (.if_icmp .ne 30, 3) := by decide +kernel
theorem d_Md_circle_47 : decode b_Md_circle 47 = .ok (.iload_n 3, 1) := by decide +kernel
theorem d_Md_circle_48 : decode b_Md_circle 48 = .ok (.iload_n 1, 1) := by decide +kernel
theorem d_Md_circle_49 : decode b_Md_circle 49 = .ok (.if_icmp .ge 25, 3) := by decide +kernel
theorem d_Md_circle_52 : decode b_Md_circle 52 = .ok (.aload_n 0, 1) := by decide +kernel
theorem d_Md_circle_53 : decode b_Md_circle 53 = .ok (.invokevirtual 177, 3) := by decide +kernel
theorem d_Md_circle_56 : decode b_Md_circle 56 = .ok (.pop, 1) := by decide +kernel
theorem d_Md_circle_57 : decode b_Md_circle 57 = .ok (.iinc 3 1, 3) := by decide +kernel
theorem d_Md_circle_60 : decode b_Md_circle 60 = .ok (.aload_n 0, 1) := by decide +kernel
theorem d_Md_circle_61 : decode b_Md_circle 61 = .ok (.iload_n 3, 1) := by decide +kernel
theorem d_Md_circle_62 : decode b_Md_circle 62 = .ok (.invokevirtual 193, 3) := by decide +kernel
theorem d_Md_circle_65 : decode b_Md_circle 65 = .ok (.aload_n 0, 1) := by decide +kernel
theorem d_Md_circle_66 : decode b_Md_circle 66 = .ok (.iload_n 3, 1) := by decide +kernel
theorem d_Md_circle_67 : decode b_Md_circle 67 = .ok (.invokevirtual 197, 3) := by decide +kernel
theorem d_Md_circle_70 : decode b_Md_circle 70 = .ok (.istore_n 2, 1) := by decide +kernel
theorem d_Md_circle_71 : decode b_Md_circle 71 = .ok (.goto (-29), 3) := by decide +kernel
theorem d_Md_circle_74 : decode b_Md_circle 74 = .ok (.aload_n 0, 1) := by decide +kernel
theorem d_Md_circle_75 : decode b_Md_circle 75 = .ok (.invokevirtual 187, 3) := by decide +kernel
theorem d_Md_circle_78 : decode b_Md_circle 78 = .ok (.aload_n 0, 1) := by decide +kernel
theorem d_Md_circle_79 : decode b_Md_circle 79 = .ok (.iload_n 2, 1) := by decide +kernel
theorem d_Md_circle_80 : decode b_Md_circle 80 = .ok (.iconst (-1), 1) := by decide +kernel
theorem d_Md_circle_81 : decode b_Md_circle 81 = .ok (.if_icmp .ne 7, 3) := by decide +kernel
theorem d_Md_circle_84 : decode b_Md_circle 84 = .ok (.iconst 2, 1) := by decide +kernel
theorem d_Md_circle_85 : decode b_Md_circle 85 = .ok (.goto 4, 3) := by decide +kernel
theorem d_Md_circle_88 : decode b_Md_circle 88 = .ok (.iconst 0, 1) := by decide +kernel
theorem d_Md_circle_89 : decode b_Md_circle 89 = .ok (.putfield 92, 3) := by decide +kernel
theorem d_Md_circle_92 : decode b_Md_circle 92 = .ok (.aload_n 0, 1) := by decide +kernel
theorem d_Md_circle_93 : decode b_Md_circle 93 = .ok (.getfield 92, 3) := by decide +kernel
theorem d_Md_circle_96 : decode b_Md_circle 96 = .ok (.ifCond .le 7, 3) := by decide +kernel
theorem d_Md_circle_99 : decode b_Md_circle 99 = .ok (.iconst 0, 1) := by decide +kernel
theorem d_Md_circle_100 : decode b_Md_circle 100 = .ok (.goto 12, 3) := by decide +kernel
theorem d_Md_circle_103 : decode b_Md_circle 103 = .ok (.iload_n 2, 1) := by decide +kernel
theorem d_Md_circle_104 : decode b_Md_circle 104 = .ok (.sipush 1000, 3) := by decide +kernel
theorem d_Md_circle_107 : decode b_Md_circle 107 = .ok (.iload_n 3, 1) := by decide +kernel
theorem d_Md_circle_108 : decode b_Md_circle 108 = .ok (.iload_n 2, 1) := by decide +kernel
theorem d_Md_circle_109 : decode b_Md_circle 109 = .ok (.isub, 1) := by decide +kernel
theorem d_Md_circle_110 : decode b_Md_circle 110 = .ok (.imul, 1) := by decide +kernel
theorem d_Md_circle_111 : decode b_Md_circle 111 = .ok (.iadd, 1) := by decide +kernel
theorem d_Md_circle_112 : decode b_Md_circle 112 = .ok (.ireturn, 1) := by decide +kernel
theorem d_Md_note_0 : decode b_Md_note 0 = .ok (.iconst 0, 1) := by decide +kernel
theorem d_Md_note_1 : decode b_Md_note 1 = .ok (.istore_n 2, 1) := by decide +kernel
theorem d_Md_note_2 : decode b_Md_note 2 = .ok (.iload_n 2, 1) := by decide +kernel
theorem d_Md_note_3 : decode b_Md_note 3 = .ok (.bipush 16, 2) := by decide +kernel
theorem d_Md_note_5 : decode b_Md_note 5 = .ok (.if_icmp .ge 46, 3) := by decide +kernel
theorem d_Md_note_8 : decode b_Md_note 8 = .ok (.aload_n 0, 1) := by decide +kernel
theorem d_Md_note_9 : decode b_Md_note 9 = .ok (.getfield 80, 3) := by decide +kernel
theorem d_Md_note_12 : decode b_Md_note 12 = .ok (.bipush 33, 2) := by decide +kernel
theorem d_Md_note_14 : decode b_Md_note 14 = .ok (.iload_n 1, 1) := by decide +kernel
theorem d_Md_note_15 : decode b_Md_note 15 = .ok (.imul, 1) := by decide +kernel
theorem d_Md_note_16 : decode b_Md_note 16 = .ok (.iload_n 2, 1) := by decide +kernel
theorem d_Md_note_17 : decode b_Md_note 17 = .ok (.iadd, 1) := by decide +kernel
theorem d_Md_note_18 : decode b_Md_note 18 = .ok (.aload_n 0, 1) := by decide +kernel
theorem d_Md_note_19 : decode b_Md_note 19 = .ok (.getfield 22, 3) := by decide +kernel
theorem d_Md_note_22 : decode b_Md_note 22 = .ok (.iload_n 2, 1) := by decide +kernel
theorem d_Md_note_23 : decode b_Md_note 23 = .ok (.iaload, 1) := by decide +kernel
theorem d_Md_note_24 : decode b_Md_note 24 = .ok (.iastore, 1) := by decide +kernel
theorem d_Md_note_25 : decode b_Md_note 25 = .ok (.aload_n 0, 1) := by decide +kernel
theorem d_Md_note_26 : decode b_Md_note 26 = .ok (.getfield 80, 3) := by decide +kernel
theorem d_Md_note_29 : decode b_Md_note 29 = .ok (.bipush 33, 2) := by decide +kernel
theorem d_Md_note_31 : decode b_Md_note 31 = .ok (.iload_n 1, 1) := by decide +kernel
theorem d_Md_note_32 : decode b_Md_note 32 = .ok (.imul, 1) := by decide +kernel
theorem d_Md_note_33 : decode b_Md_note 33 = .ok (.bipush 16, 2) := by decide +kernel
theorem d_Md_note_35 : decode b_Md_note 35 = .ok (.iadd, 1) := by decide +kernel
theorem d_Md_note_36 : decode b_Md_note 36 = .ok (.iload_n 2, 1) := by decide +kernel
theorem d_Md_note_37 : decode b_Md_note 37 = .ok (.iadd, 1) := by decide +kernel
theorem d_Md_note_38 : decode b_Md_note 38 = .ok (.aload_n 0, 1) := by decide +kernel
theorem d_Md_note_39 : decode b_Md_note 39 = .ok (.getfield 25, 3) := by decide +kernel
theorem d_Md_note_42 : decode b_Md_note 42 = .ok (.iload_n 2, 1) := by decide +kernel
theorem d_Md_note_43 : decode b_Md_note 43 = .ok (.iaload, 1) := by decide +kernel
theorem d_Md_note_44 : decode b_Md_note 44 = .ok (.iastore, 1) := by decide +kernel
theorem d_Md_note_45 : decode b_Md_note 45 = .ok (.iinc 2 1, 3) := by decide +kernel
theorem d_Md_note_48 : decode b_Md_note 48 = .ok (.goto (-46), 3) := by decide +kernel
theorem d_Md_note_51 : decode b_Md_note 51 = .ok (.aload_n 0, 1) := by decide +kernel
theorem d_Md_note_52 : decode b_Md_note 52 = .ok (.getfield 80, 3) := by decide +kernel
theorem d_Md_note_55 : decode b_Md_note 55 = .ok (.bipush 33, 2) := by decide +kernel
theorem d_Md_note_57 : decode b_Md_note 57 = .ok (.iload_n 1, 1) := by decide +kernel
theorem d_Md_note_58 : decode b_Md_note 58 = .ok (.imul, 1) := by decide +kernel
theorem d_Md_note_59 : decode b_Md_note 59 = .ok (.bipush 32, 2) := by decide +kernel
theorem d_Md_note_61 : decode b_Md_note 61 = .ok (.iadd, 1) := by decide +kernel
theorem d_Md_note_62 : decode b_Md_note 62 = .ok (.aload_n 0, 1) := by decide +kernel
theorem d_Md_note_63 : decode b_Md_note 63 = .ok (.getfield 137, 3) := by decide +kernel
theorem d_Md_note_66 : decode b_Md_note 66 = .ok (.ifCond .eq 7, 3) := by decide +kernel
theorem d_Md_note_69 : decode b_Md_note 69 = .ok (.iconst 1, 1) := by decide +kernel
theorem d_Md_note_70 : decode b_Md_note 70 = .ok (.goto 4, 3) := by decide +kernel
theorem d_Md_note_73 : decode b_Md_note 73 = .ok (.iconst 0, 1) := by decide +kernel
theorem d_Md_note_74 : decode b_Md_note 74 = .ok (.iastore, 1) := by decide +kernel
theorem d_Md_note_75 : decode b_Md_note 75 = .ok (.return_, 1) := by decide +kernel
theorem d_Md_before_0 : decode b_Md_before 0 = .ok (.iconst 0, 1) := by decide +kernel
theorem d_Md_before_1 : decode b_Md_before 1 = .ok (.istore_n 2, 1) := by decide +kernel
theorem d_Md_before_2 : decode b_Md_before 2 = .ok (.iload_n 2, 1) := by decide +kernel
theorem d_Md_before_3 : decode b_Md_before 3 = .ok (.iload_n 1, 1) := by decide +kernel
theorem d_Md_before_4 : decode b_Md_before 4 = .ok (.if_icmp .ge 20, 3) := by decide +kernel
theorem d_Md_before_7 : decode b_Md_before 7 = .ok (.aload_n 0, 1) := by decide +kernel
theorem d_Md_before_8 : decode b_Md_before 8 = .ok (.iload_n 2, 1) := by decide +kernel
theorem d_Md_before_9 : decode b_Md_before 9 = .ok (.iload_n 1, 1) := by decide +kernel
theorem d_Md_before_10 : decode b_Md_before 10 = .ok (.invokevirtual 190, 3) := by decide +kernel
theorem d_Md_before_13 : decode b_Md_before 13 = .ok (.ifCond .eq 5, 3) := by decide +kernel
theorem d_Md_before_16 : decode b_Md_before 16 = .ok (.iload_n 2, 1) := by decide +kernel
theorem d_Md_before_17 : decode b_Md_before 17 = .ok (.ireturn, 1) := by decide +kernel
theorem d_Md_before_18 : decode b_Md_before 18 = .ok (.iinc 2 1, 3) := by decide +kernel
theorem d_Md_before_21 : decode b_Md_before 21 = .ok (.goto (-19), 3) := by decide +kernel
theorem d_Md_before_24 : decode b_Md_before 24 = .ok (.iconst (-1), 1) := by decide +kernel
theorem d_Md_before_25 : decode b_Md_before 25 = .ok (.ireturn, 1) := by decide +kernel
theorem d_Md_isAlike_0 : decode b_Md_isAlike 0 = .ok (.iconst 1, 1) := by decide +kernel
theorem d_Md_isAlike_1 : decode b_Md_isAlike 1 = .ok (.istore_n 3, 1) := by decide +kernel
theorem d_Md_isAlike_2 : decode b_Md_isAlike 2 = .ok (.iconst 0, 1) := by decide +kernel
theorem d_Md_isAlike_3 : decode b_Md_isAlike 3 = .ok (.istore 4, 2) := by decide +kernel
theorem d_Md_isAlike_5 : decode b_Md_isAlike 5 = .ok (.iload 4, 2) := by decide +kernel
theorem d_Md_isAlike_7 : decode b_Md_isAlike 7 = .ok (.bipush 33, 2) := by decide +kernel
theorem d_Md_isAlike_9 : decode b_Md_isAlike 9 = .ok (.if_icmp .ge 46, 3) := by decide +kernel
theorem d_Md_isAlike_12 : decode b_Md_isAlike 12 = .ok (.iload_n 3, 1) := by decide +kernel
theorem d_Md_isAlike_13 : decode b_Md_isAlike 13 = .ok (.ifCond .eq 42, 3) := by decide +kernel
theorem d_Md_isAlike_16 : decode b_Md_isAlike 16 = .ok (.aload_n 0, 1) := by decide +kernel
theorem d_Md_isAlike_17 : decode b_Md_isAlike 17 = .ok (.getfield 80, 3) := by decide +kernel
theorem d_Md_isAlike_20 : decode b_Md_isAlike 20 = .ok (.bipush 33, 2) := by decide +kernel
theorem d_Md_isAlike_22 : decode b_Md_isAlike 22 = .ok (.iload_n 1, 1) := by decide +kernel
theorem d_Md_isAlike_23 : decode b_Md_isAlike 23 = .ok (.imul, 1) := by decide +kernel
theorem d_Md_isAlike_24 : decode b_Md_isAlike 24 = .ok (.iload 4, 2) := by decide +kernel
theorem d_Md_isAlike_26 : decode b_Md_isAlike 26 = .ok (.iadd, 1) := by decide +kernel
theorem d_Md_isAlike_27 : decode b_Md_isAlike 27 = .ok (.iaload, 1) := by decide +kernel
theorem d_Md_isAlike_28 : decode b_Md_isAlike 28 = .ok (.aload_n 0, 1) := by decide +kernel
theorem d_Md_isAlike_29 : decode b_Md_isAlike 29 = .ok (.getfield 80, 3) := by decide +kernel
theorem d_Md_isAlike_32 : decode b_Md_isAlike 32 = .ok (.bipush 33, 2) := by decide +kernel
theorem d_Md_isAlike_34 : decode b_Md_isAlike 34 = .ok (.iload_n 2, 1) := by decide +kernel
theorem d_Md_isAlike_35 : decode b_Md_isAlike 35 = .ok (.imul, 1) := by decide +kernel
theorem d_Md_isAlike_36 : decode b_Md_isAlike 36 = .ok (.iload 4, 2) := by decide +kernel
theorem d_Md_isAlike_38 : decode b_Md_isAlike 38 = .ok (.iadd, 1) := by decide +kernel
theorem d_Md_isAlike_39 : decode b_Md_isAlike 39 = .ok (.iaload, 1) := by decide +kernel
theorem d_Md_isAlike_40 : decode b_Md_isAlike 40 = .ok (.if_icmp .ne 7, 3) := by decide +kernel
theorem d_Md_isAlike_43 : decode b_Md_isAlike 43 = .ok (.iconst 1, 1) := by decide +kernel
theorem d_Md_isAlike_44 : decode b_Md_isAlike 44 = .ok (.goto 4, 3) := by decide +kernel
theorem d_Md_isAlike_47 : decode b_Md_isAlike 47 = .ok (.iconst 0, 1) := by decide +kernel
theorem d_Md_isAlike_48 : decode b_Md_isAlike 48 = .ok (.istore_n 3, 1) := by decide +kernel
theorem d_Md_isAlike_49 : decode b_Md_isAlike 49 = .ok (.iinc 4 1, 3) := by decide +kernel
theorem d_Md_isAlike_52 : decode b_Md_isAlike 52 = .ok (.goto (-47), 3) := by decide +kernel
theorem d_Md_isAlike_55 : decode b_Md_isAlike 55 = .ok (.iload_n 3, 1) := by decide +kernel
theorem d_Md_isAlike_56 : decode b_Md_isAlike 56 = .ok (.ireturn, 1) := by decide +kernel
theorem d_Md_race_0 : decode b_Md_race 0 = .ok (.aload_n 0, 1) := by decide +kernel
theorem d_Md_race_1 : decode b_Md_race 1 = .ok (.iload_n 1, 1) := by decide +kernel
theorem d_Md_race_2 : decode b_Md_race 2 = .ok (.iconst 0, 1) := by decide +kernel
theorem d_Md_race_3 : decode b_Md_race 3 = .ok (.aload_n 0, 1) := by decide +kernel
theorem d_Md_race_4 : decode b_Md_race 4 = .ok (.getfield 117, 3) := by decide +kernel
theorem d_Md_race_7 : decode b_Md_race 7 = .ok (.iconst 1, 1) := by decide +kernel
theorem d_Md_race_8 : decode b_Md_race 8 = .ok (.isub, 1) := by decide +kernel
theorem d_Md_race_9 : decode b_Md_race 9 = .ok (.invokestatic 96, 3) := by decide +kernel
theorem d_Md_race_12 : decode b_Md_race 12 = .ok (.ifCond .eq 36, 3) := by decide +kernel
theorem d_Md_race_15 : decode b_Md_race 15 = .ok (.iload_n 3, 1) := by decide +kernel
theorem d_Md_race_16 : decode b_Md_race 16 = .ok (.iconst 0, 1) := by decide +kernel
theorem d_Md_race_17 : decode b_Md_race 17 = .ok (.bipush 6, 2) := by decide +kernel
theorem d_Md_race_19 : decode b_Md_race 19 = .ok (.invokestatic 96, 3) := by decide +kernel
theorem d_Md_race_22 : decode b_Md_race 22 = .ok (.ifCond .eq 26, 3) := by decide +kernel
theorem d_Md_race_25 : decode b_Md_race 25 = .ok (.iload_n 3, 1) := by decide +kernel
theorem d_Md_race_26 : decode b_Md_race 26 = .ok (.aload_n 0, 1) := by decide +kernel
theorem d_Md_race_27 : decode b_Md_race 27 = .ok (.getfield 108, 3) := by decide +kernel
theorem d_Md_race_30 : decode b_Md_race 30 = .ok (.if_icmp .gt 18, 3) := by decide +kernel
theorem d_Md_race_33 : decode b_Md_race 33 = .ok (.iload 4, 2) := by decide +kernel
theorem d_Md_race_35 : decode b_Md_race 35 = .ok (.iconst 1, 1) := by decide +kernel
theorem d_Md_race_36 : decode b_Md_race 36 = .ok (.bipush 100, 2) := by decide +kernel
theorem d_Md_race_38 : decode b_Md_race 38 = .ok (.invokestatic 96, 3) := by decide +kernel
theorem d_Md_race_41 : decode b_Md_race 41 = .ok (.ifCond .eq 7, 3) := by decide +kernel
theorem d_Md_race_44 : decode b_Md_race 44 = .ok (.iconst 0, 1) := by decide +kernel
theorem d_Md_race_45 : decode b_Md_race 45 = .ok (.goto 4, 3) := by decide +kernel
theorem d_Md_race_48 : decode b_Md_race 48 = .ok (.iconst 1, 1) := by decide +kernel
theorem d_Md_race_49 : decode b_Md_race 49 = .ok (.putfield 92, 3) := by decide +kernel
theorem d_Md_race_52 : decode b_Md_race 52 = .ok (.aload_n 0, 1) := by decide +kernel
theorem d_Md_race_53 : decode b_Md_race 53 = .ok (.getfield 92, 3) := by decide +kernel
theorem d_Md_race_56 : decode b_Md_race 56 = .ok (.ifCond .le 5, 3) := by decide +kernel
theorem d_Md_race_59 : decode b_Md_race 59 = .ok (.iconst 0, 1) := by decide +kernel
theorem d_Md_race_60 : decode b_Md_race 60 = .ok (.ireturn, 1) := by decide +kernel
theorem d_Md_race_61 : decode b_Md_race 61 = .ok (.aload_n 0, 1) := by decide +kernel
theorem d_Md_race_62 : decode b_Md_race 62 = .ok (.invokevirtual 181, 3) := by decide +kernel
theorem d_Md_race_65 : decode b_Md_race 65 = .ok (.aload_n 0, 1) := by decide +kernel
theorem d_Md_race_66 : decode b_Md_race 66 = .ok (.iload_n 1, 1) := by decide +kernel
theorem d_Md_race_67 : decode b_Md_race 67 = .ok (.iload_n 2, 1) := by decide +kernel
theorem d_Md_race_68 : decode b_Md_race 68 = .ok (.iconst 0, 1) := by decide +kernel
theorem d_Md_race_69 : decode b_Md_race 69 = .ok (.iload 4, 2) := by decide +kernel
theorem d_Md_race_71 : decode b_Md_race 71 = .ok (.invokevirtual 208, 3) := by decide +kernel
theorem d_Md_race_74 : decode b_Md_race 74 = .ok (.istore 5, 2) := by decide +kernel
theorem d_Md_race_76 : decode b_Md_race 76 = .ok (.iconst (-1), 1) := by decide +kernel
theorem d_Md_race_77 : decode b_Md_race 77 = .ok (.istore 6, 2) := by decide +kernel
theorem d_Md_race_79 : decode b_Md_race 79 = .ok (.iconst 1, 1) := by decide +kernel
theorem d_Md_race_80 : decode b_Md_race 80 = .ok (.iload_n 3, 1) := by decide +kernel
theorem d_Md_race_81 : decode b_Md_race 81 = .ok (.ishl, 1) := by decide +kernel
theorem d_Md_race_82 : decode b_Md_race 82 = .ok (.iconst 1, 1) := by decide +kernel
theorem d_Md_race_83 : decode b_Md_race 83 = .ok (.isub, 1) := by decide +kernel
theorem d_Md_race_84 : decode b_Md_race 84 = .ok (.istore 7, 2) := by decide +kernel
theorem d_Md_race_86 : decode b_Md_race 86 = .ok (.iload 7, 2) := by decide +kernel
theorem d_Md_race_88 : decode b_Md_race 88 = .ok (.ifCond .le 28, 3) := by decide +kernel
theorem d_Md_race_91 : decode b_Md_race 91 = .ok (.aload_n 0, 1) := by decide +kernel
theorem d_Md_race_92 : decode b_Md_race 92 = .ok (.iload_n 1, 1) := by decide +kernel
theorem d_Md_race_93 : decode b_Md_race 93 = .ok (.iload_n 2, 1) := by decide +kernel
theorem d_Md_race_94 : decode b_Md_race 94 = .ok (.iload 7, 2) := by decide +kernel
theorem d_Md_race_96 : decode b_Md_race 96 = .ok (.iload 4, 2) := by decide +kernel
theorem d_Md_race_98 : decode b_Md_race 98 = .ok (.invokevirtual 208, 3) := by decide +kernel
theorem d_Md_race_101 : decode b_Md_race 101 = .ok (.iload 5, 2) := by decide +kernel
theorem d_Md_race_103 : decode b_Md_race 103 = .ok (.if_icmp .eq 7, 3) := by decide +kernel
theorem d_Md_race_106 : decode b_Md_race 106 = .ok (.iload 7, 2) := by decide +kernel
theorem d_Md_race_108 : decode b_Md_race 108 = .ok (.istore 6, 2) := by decide +kernel
theorem d_Md_race_110 : decode b_Md_race 110 = .ok (.iinc 7 (-1), 3) := by decide +kernel
theorem d_Md_race_113 : decode b_Md_race 113 = .ok (.goto (-27), 3) := by decide +kernel
theorem d_Md_race_116 : decode b_Md_race 116 = .ok (.aload_n 0, 1) := by decide +kernel
theorem d_Md_race_117 : decode b_Md_race 117 = .ok (.invokevirtual 187, 3) := by decide +kernel
theorem d_Md_race_120 : decode b_Md_race 120 = .ok (.iload 6, 2) := by decide +kernel
theorem d_Md_race_122 : decode b_Md_race 122 = .ok (.ireturn, 1) := by decide +kernel
theorem d_Md_outcome_0 : decode b_Md_outcome 0 = .ok (.aload_n 0, 1) := by decide +kernel
theorem d_Md_outcome_1 : decode b_Md_outcome 1 = .ok (.invokevirtual 187, 3) := by decide +kernel
theorem d_Md_outcome_4 : decode b_Md_outcome 4 = .ok (.aload_n 0, 1) := by decide +kernel
theorem d_Md_outcome_5 : decode b_Md_outcome 5 = .ok (.getfield 49, 3) := by decide +kernel
theorem d_Md_outcome_8 : decode b_Md_outcome 8 = .ok (.iload_n 1, 1) := by decide +kernel
theorem d_Md_outcome_9 : decode b_Md_outcome 9 = .ok (.baload, 1) := by decide +kernel
theorem d_Md_outcome_10 : decode b_Md_outcome 10 = .ok (.istore 5, 2) := by decide +kernel
theorem d_Md_outcome_12 : decode b_Md_outcome 12 = .ok (.aload_n 0, 1) := by decide +kernel
theorem d_Md_outcome_13 : decode b_Md_outcome 13 = .ok (.getfield 49, 3) := by decide +kernel
theorem d_Md_outcome_16 : decode b_Md_outcome 16 = .ok (.iload_n 1, 1) := by decide +kernel
theorem d_Md_outcome_17 : decode b_Md_outcome 17 = .ok (.iload_n 2, 1) := by decide +kernel
theorem d_Md_outcome_18 : decode b_Md_outcome 18 = .ok (.bastore, 1) := by decide +kernel
theorem d_Md_outcome_19 : decode b_Md_outcome 19 = .ok (.aload_n 0, 1) := by decide +kernel
theorem d_Md_outcome_20 : decode b_Md_outcome 20 = .ok (.invokevirtual 111, 3) := by decide +kernel
theorem d_Md_outcome_23 : decode b_Md_outcome 23 = .ok (.aload_n 0, 1) := by decide +kernel
theorem d_Md_outcome_24 : decode b_Md_outcome 24 = .ok (.iload_n 3, 1) := by decide +kernel
theorem d_Md_outcome_25 : decode b_Md_outcome 25 = .ok (.putfield 144, 3) := by decide +kernel
theorem d_Md_outcome_28 : decode b_Md_outcome 28 = .ok (.iconst 0, 1) := by decide +kernel
theorem d_Md_outcome_29 : decode b_Md_outcome 29 = .ok (.istore 6, 2) := by decide +kernel
theorem d_Md_outcome_31 : decode b_Md_outcome 31 = .ok (.iconst 0, 1) := by decide +kernel
theorem d_Md_outcome_32 : decode b_Md_outcome 32 = .ok (.istore 7, 2) := by decide +kernel
theorem d_Md_outcome_34 : decode b_Md_outcome 34 = .ok (.iload 6, 2) := by decide +kernel
theorem d_Md_outcome_36 : decode b_Md_outcome 36 = .ok (.ifCond .ne 47, 3) := by decide +kernel
theorem d_Md_outcome_39 : decode b_Md_outcome 39 = .ok (.iload 7, 2) := by decide +kernel
theorem d_Md_outcome_41 : decode b_Md_outcome 41 = .ok (.iload 4, 2) := by decide +kernel
theorem d_Md_outcome_43 : decode b_Md_outcome 43 = .ok (.if_icmp .gt 40, 3) := by decide +kernel
theorem d_Md_outcome_46 : decode b_Md_outcome 46 = .ok (.aload_n 0, 1) := by decide +kernel
theorem d_Md_outcome_47 : decode b_Md_outcome 47 = .ok (.invokevirtual 200, 3) := by decide +kernel
theorem d_Md_outcome_50 : decode b_Md_outcome 50 = .ok (.ifCond .ne 7, 3) := by decide +kernel
theorem d_Md_outcome_53 : decode b_Md_outcome 53 = .ok (.iconst 1, 1) := by decide +kernel
theorem d_Md_outcome_54 : decode b_Md_outcome 54 = .ok (.goto 4, 3) := by decide +kernel
theorem d_Md_outcome_57 : decode b_Md_outcome 57 = .ok (.iconst 0, 1) := by decide +kernel
theorem d_Md_outcome_58 : decode b_Md_outcome 58 = .ok (.istore 6, 2) := by decide +kernel
theorem d_Md_outcome_60 : decode b_Md_outcome 60 = .ok (.iload 6, 2) := by decide +kernel
theorem d_Md_outcome_62 : decode b_Md_outcome 62 = .ok (.ifCond .ne 15, 3) := by decide +kernel
theorem d_Md_outcome_65 : decode b_Md_outcome 65 = .ok (.iload 7, 2) := by decide +kernel
theorem d_Md_outcome_67 : decode b_Md_outcome 67 = .ok (.iload 4, 2) := by decide +kernel
theorem d_Md_outcome_69 : decode b_Md_outcome 69 = .ok (.if_icmp .ge 8, 3) := by decide +kernel
theorem d_Md_outcome_72 : decode b_Md_outcome 72 = .ok (.aload_n 0, 1) := by decide +kernel
theorem d_Md_outcome_73 : decode b_Md_outcome 73 = .ok (.invokevirtual 177, 3) := by decide +kernel
theorem d_Md_outcome_76 : decode b_Md_outcome 76 = .ok (.pop, 1) := by decide +kernel
theorem d_Md_outcome_77 : decode b_Md_outcome 77 = .ok (.iinc 7 1, 3) := by decide +kernel
theorem d_Md_outcome_80 : decode b_Md_outcome 80 = .ok (.goto (-46), 3) := by decide +kernel
theorem d_Md_outcome_83 : decode b_Md_outcome 83 = .ok (.iload 6, 2) := by decide +kernel
theorem d_Md_outcome_85 : decode b_Md_outcome 85 = .ok (.ifCond .eq 24, 3) := by decide +kernel
theorem d_Md_outcome_88 : decode b_Md_outcome 88 = .ok (.aload_n 0, 1) := by decide +kernel
theorem d_Md_outcome_89 : decode b_Md_outcome 89 = .ok (.invokevirtual 203, 3) := by decide +kernel
theorem d_Md_outcome_92 : decode b_Md_outcome 92 = .ok (.aload_n 0, 1) := by decide +kernel
theorem d_Md_outcome_93 : decode b_Md_outcome 93 = .ok (.getfield 137, 3) := by decide +kernel
theorem d_Md_outcome_96 : decode b_Md_outcome 96 = .ok (.ifCond .eq 8, 3) := by decide +kernel
theorem d_Md_outcome_99 : decode b_Md_outcome 99 = .ok (.ldc 207, 2) := by decide +kernel
theorem d_Md_outcome_101 : decode b_Md_outcome 101 = .ok (.goto 4, 3) := by decide +kernel
theorem d_Md_outcome_104 : decode b_Md_outcome 104 = .ok (.iconst 0, 1) := by decide +kernel
theorem d_Md_outcome_105 : decode b_Md_outcome 105 = .ok (.ior, 1) := by decide +kernel
theorem d_Md_outcome_106 : decode b_Md_outcome 106 = .ok (.goto 4, 3) := by decide +kernel
theorem d_Md_outcome_109 : decode b_Md_outcome 109 = .ok (.iconst (-1), 1) := by decide +kernel
theorem d_Md_outcome_110 : decode b_Md_outcome 110 = .ok (.istore 8, 2) := by decide +kernel
theorem d_Md_outcome_112 : decode b_Md_outcome 112 = .ok (.aload_n 0, 1) := by decide +kernel
theorem d_Md_outcome_113 : decode b_Md_outcome 113 = .ok (.iconst 0, 1) := by decide +kernel
theorem d_Md_outcome_114 : decode b_Md_outcome 114 = .ok (.putfield 144, 3) := by decide +kernel
theorem d_Md_outcome_117 : decode b_Md_outcome 117 = .ok (.aload_n 0, 1) := by decide +kernel
theorem d_Md_outcome_118 : decode b_Md_outcome 118 = .ok (.getfield 49, 3) := by decide +kernel
theorem d_Md_outcome_121 : decode b_Md_outcome 121 = .ok (.iload_n 1, 1) := by decide +kernel
theorem d_Md_outcome_122 : decode b_Md_outcome 122 = .ok (.iload 5, 2) := by decide +kernel
theorem d_Md_outcome_124 : decode b_Md_outcome 124 = .ok (.bastore, 1) := by decide +kernel
theorem d_Md_outcome_125 : decode b_Md_outcome 125 = .ok (.iload 8, 2) := by decide +kernel
theorem d_Md_outcome_127 : decode b_Md_outcome 127 = .ok (.ireturn, 1) := by decide +kernel
theorem d_Md_wouldChange_0 : decode b_Md_wouldChange 0 = .ok (.aload_n 0, 1) := by decide +kernel
theorem d_Md_wouldChange_1 : decode b_Md_wouldChange 1 = .ok (.getfield 137, 3) := by decide +kernel
theorem d_Md_wouldChange_4 : decode b_Md_wouldChange 4 = .ok (.istore_n 1, 1) := by decide +kernel
theorem d_Md_wouldChange_5 : decode b_Md_wouldChange 5 = .ok (.iconst 0, 1) := by decide +kernel
theorem d_Md_wouldChange_6 : decode b_Md_wouldChange 6 = .ok (.istore_n 2, 1) := by decide +kernel
theorem d_Md_wouldChange_7 : decode b_Md_wouldChange 7 = .ok (.iload_n 2, 1) := by decide +kernel
theorem d_Md_wouldChange_8 : decode b_Md_wouldChange 8 = .ok (.bipush 16, 2) := by decide +kernel
theorem d_Md_wouldChange_10 : decode b_Md_wouldChange 10 = .ok (.if_icmp .ge 45, 3) := by decide +kernel
theorem d_Md_wouldChange_13 : decode b_Md_wouldChange 13 = .ok (.aload_n 0, 1) := by decide +kernel
theorem d_Md_wouldChange_14 : decode b_Md_wouldChange 14 = .ok (.getfield 83, 3) := by decide +kernel
theorem d_Md_wouldChange_17 : decode b_Md_wouldChange 17 = .ok (.iload_n 2, 1) := by decide +kernel
theorem d_Md_wouldChange_18 : decode b_Md_wouldChange 18 = .ok (.aload_n 0, 1) := by decide +kernel
theorem d_Md_wouldChange_19 : decode b_Md_wouldChange 19 = .ok (.getfield 22, 3) := by decide +kernel
theorem d_Md_wouldChange_22 : decode b_Md_wouldChange 22 = .ok (.iload_n 2, 1) := by decide +kernel
theorem d_Md_wouldChange_23 : decode b_Md_wouldChange 23 = .ok (.iaload, 1) := by decide +kernel
theorem d_Md_wouldChange_24 : decode b_Md_wouldChange 24 = .ok (.iastore, 1) := by decide +kernel
theorem d_Md_wouldChange_25 : decode b_Md_wouldChange 25 = .ok (.aload_n 0, 1) := by decide +kernel
theorem d_Md_wouldChange_26 : decode b_Md_wouldChange 26 = .ok (.getfield 86, 3) := by decide +kernel
theorem d_Md_wouldChange_29 : decode b_Md_wouldChange 29 = .ok (.iload_n 2, 1) := by decide +kernel
theorem d_Md_wouldChange_30 : decode b_Md_wouldChange 30 = .ok (.aload_n 0, 1) := by decide +kernel
theorem d_Md_wouldChange_31 : decode b_Md_wouldChange 31 = .ok (.getfield 25, 3) := by decide +kernel
theorem d_Md_wouldChange_34 : decode b_Md_wouldChange 34 = .ok (.iload_n 2, 1) := by decide +kernel
theorem d_Md_wouldChange_35 : decode b_Md_wouldChange 35 = .ok (.iaload, 1) := by decide +kernel
theorem d_Md_wouldChange_36 : decode b_Md_wouldChange 36 = .ok (.iastore, 1) := by decide +kernel
theorem d_Md_wouldChange_37 : decode b_Md_wouldChange 37 = .ok (.aload_n 0, 1) := by decide +kernel
theorem d_Md_wouldChange_38 : decode b_Md_wouldChange 38 = .ok (.getfield 89, 3) := by decide +kernel
theorem d_Md_wouldChange_41 : decode b_Md_wouldChange 41 = .ok (.iload_n 2, 1) := by decide +kernel
theorem d_Md_wouldChange_42 : decode b_Md_wouldChange 42 = .ok (.aload_n 0, 1) := by decide +kernel
theorem d_Md_wouldChange_43 : decode b_Md_wouldChange 43 = .ok (.getfield 28, 3) := by decide +kernel
theorem d_Md_wouldChange_46 : decode b_Md_wouldChange 46 = .ok (.iload_n 2, 1) := by decide +kernel
theorem d_Md_wouldChange_47 : decode b_Md_wouldChange 47 = .ok (.iaload, 1) := by decide +kernel
theorem d_Md_wouldChange_48 : decode b_Md_wouldChange 48 = .ok (.iastore, 1) := by decide +kernel
theorem d_Md_wouldChange_49 : decode b_Md_wouldChange 49 = .ok (.iinc 2 1, 3) := by decide +kernel
theorem d_Md_wouldChange_52 : decode b_Md_wouldChange 52 = .ok (.goto (-45), 3) := by decide +kernel
theorem d_Md_wouldChange_55 : decode b_Md_wouldChange 55 = .ok (.aload_n 0, 1) := by decide +kernel
theorem d_Md_wouldChange_56 : decode b_Md_wouldChange 56 = .ok (.invokevirtual 177, 3) := by decide +kernel
theorem d_Md_wouldChange_59 : decode b_Md_wouldChange 59 = .ok (.istore_n 2, 1) := by decide +kernel
theorem d_Md_wouldChange_60 : decode b_Md_wouldChange 60 = .ok (.iconst 0, 1) := by decide +kernel
theorem d_Md_wouldChange_61 : decode b_Md_wouldChange 61 = .ok (.istore_n 3, 1) := by decide +kernel
theorem d_Md_wouldChange_62 : decode b_Md_wouldChange 62 = .ok (.iload_n 3, 1) := by decide +kernel
theorem d_Md_wouldChange_63 : decode b_Md_wouldChange 63 = .ok (.bipush 16, 2) := by decide +kernel
theorem d_Md_wouldChange_65 : decode b_Md_wouldChange 65 = .ok (.if_icmp .ge 45, 3) := by decide +kernel
theorem d_Md_wouldChange_68 : decode b_Md_wouldChange 68 = .ok (.aload_n 0, 1) := by decide +kernel
theorem d_Md_wouldChange_69 : decode b_Md_wouldChange 69 = .ok (.getfield 22, 3) := by decide +kernel
theorem d_Md_wouldChange_72 : decode b_Md_wouldChange 72 = .ok (.iload_n 3, 1) := by decide +kernel
theorem d_Md_wouldChange_73 : decode b_Md_wouldChange 73 = .ok (.aload_n 0, 1) := by decide +kernel
theorem d_Md_wouldChange_74 : decode b_Md_wouldChange 74 = .ok (.getfield 83, 3) := by decide +kernel
theorem d_Md_wouldChange_77 : decode b_Md_wouldChange 77 = .ok (.iload_n 3, 1) := by decide +kernel
theorem d_Md_wouldChange_78 : decode b_Md_wouldChange 78 = .ok (.iaload, 1) := by decide +kernel
theorem d_Md_wouldChange_79 : decode b_Md_wouldChange 79 = .ok (.iastore, 1) := by decide +kernel
theorem d_Md_wouldChange_80 : decode b_Md_wouldChange 80 = .ok (.aload_n 0, 1) := by decide +kernel
theorem d_Md_wouldChange_81 : decode b_Md_wouldChange 81 = .ok (.getfield 25, 3) := by decide +kernel
theorem d_Md_wouldChange_84 : decode b_Md_wouldChange 84 = .ok (.iload_n 3, 1) := by decide +kernel
theorem d_Md_wouldChange_85 : decode b_Md_wouldChange 85 = .ok (.aload_n 0, 1) := by decide +kernel
theorem d_Md_wouldChange_86 : decode b_Md_wouldChange 86 = .ok (.getfield 86, 3) := by decide +kernel
theorem d_Md_wouldChange_89 : decode b_Md_wouldChange 89 = .ok (.iload_n 3, 1) := by decide +kernel
theorem d_Md_wouldChange_90 : decode b_Md_wouldChange 90 = .ok (.iaload, 1) := by decide +kernel
theorem d_Md_wouldChange_91 : decode b_Md_wouldChange 91 = .ok (.iastore, 1) := by decide +kernel
theorem d_Md_wouldChange_92 : decode b_Md_wouldChange 92 = .ok (.aload_n 0, 1) := by decide +kernel
theorem d_Md_wouldChange_93 : decode b_Md_wouldChange 93 = .ok (.getfield 28, 3) := by decide +kernel
theorem d_Md_wouldChange_96 : decode b_Md_wouldChange 96 = .ok (.iload_n 3, 1) := by decide +kernel
theorem d_Md_wouldChange_97 : decode b_Md_wouldChange 97 = .ok (.aload_n 0, 1) := by decide +kernel
theorem d_Md_wouldChange_98 : decode b_Md_wouldChange 98 = .ok (.getfield 89, 3) := by decide +kernel
theorem d_Md_wouldChange_101 : decode b_Md_wouldChange 101 = .ok (.iload_n 3, 1) := by decide +kernel
theorem d_Md_wouldChange_102 : decode b_Md_wouldChange 102 = .ok (.iaload, 1) := by decide +kernel
theorem d_Md_wouldChange_103 : decode b_Md_wouldChange 103 = .ok (.iastore, 1) := by decide +kernel
theorem d_Md_wouldChange_104 : decode b_Md_wouldChange 104 = .ok (.iinc 3 1, 3) := by decide +kernel
theorem d_Md_wouldChange_107 : decode b_Md_wouldChange 107 = .ok (.goto (-45), 3) := by decide +kernel
theorem d_Md_wouldChange_110 : decode b_Md_wouldChange 110 = .ok (.aload_n 0, 1) := by decide +kernel
theorem d_Md_wouldChange_111 : decode b_Md_wouldChange 111 = .ok (.iload_n 1, 1) := by decide +kernel
theorem d_Md_wouldChange_112 : decode b_Md_wouldChange 112 = .ok (.putfield 137, 3) := by decide +kernel
theorem d_Md_wouldChange_115 : decode b_Md_wouldChange 115 = .ok (.iload_n 2, 1) := by decide +kernel
theorem d_Md_wouldChange_116 : decode b_Md_wouldChange 116 = .ok (.ireturn, 1) := by decide +kernel
theorem d_Md_upSet_0 : decode b_Md_upSet 0 = .ok (.iconst 0, 1) := by decide +kernel
theorem d_Md_upSet_1 : decode b_Md_upSet 1 = .ok (.istore_n 1, 1) := by decide +kernel
theorem d_Md_upSet_2 : decode b_Md_upSet 2 = .ok (.iconst 0, 1) := by decide +kernel
theorem d_Md_upSet_3 : decode b_Md_upSet 3 = .ok (.istore_n 2, 1) := by decide +kernel
theorem d_Md_upSet_4 : decode b_Md_upSet 4 = .ok (.iload_n 2, 1) := by decide +kernel
theorem d_Md_upSet_5 : decode b_Md_upSet 5 = .ok (.aload_n 0, 1) := by decide +kernel
theorem d_Md_upSet_6 : decode b_Md_upSet 6 = .ok (.getfield 108, 3) := by decide +kernel
theorem d_Md_upSet_9 : decode b_Md_upSet 9 = .ok (.if_icmp .ge 29, 3) := by decide +kernel
theorem d_Md_upSet_12 : decode b_Md_upSet 12 = .ok (.iload_n 1, 1) := by decide +kernel
theorem d_Md_upSet_13 : decode b_Md_upSet 13 = .ok (.aload_n 0, 1) := by decide +kernel
theorem d_Md_upSet_14 : decode b_Md_upSet 14 = .ok (.getfield 22, 3) := by decide +kernel
theorem d_Md_upSet_17 : decode b_Md_upSet 17 = .ok (.iload_n 2, 1) := by decide +kernel
theorem d_Md_upSet_18 : decode b_Md_upSet 18 = .ok (.iaload, 1) := by decide +kernel
theorem d_Md_upSet_19 : decode b_Md_upSet 19 = .ok (.iconst 2, 1) := by decide +kernel
theorem d_Md_upSet_20 : decode b_Md_upSet 20 = .ok (.if_icmp .ne 9, 3) := by decide +kernel
theorem d_Md_upSet_23 : decode b_Md_upSet 23 = .ok (.iconst 1, 1) := by decide +kernel
theorem d_Md_upSet_24 : decode b_Md_upSet 24 = .ok (.iload_n 2, 1) := by decide +kernel
theorem d_Md_upSet_25 : decode b_Md_upSet 25 = .ok (.ishl, 1) := by decide +kernel
theorem d_Md_upSet_26 : decode b_Md_upSet 26 = .ok (.goto 4, 3) := by decide +kernel
theorem d_Md_upSet_29 : decode b_Md_upSet 29 = .ok (.iconst 0, 1) := by decide +kernel
theorem d_Md_upSet_30 : decode b_Md_upSet 30 = .ok (.ior, 1) := by decide +kernel
theorem d_Md_upSet_31 : decode b_Md_upSet 31 = .ok (.istore_n 1, 1) := by decide +kernel
theorem d_Md_upSet_32 : decode b_Md_upSet 32 = .ok (.iinc 2 1, 3) := by decide +kernel
theorem d_Md_upSet_35 : decode b_Md_upSet 35 = .ok (.goto (-31), 3) := by decide +kernel
theorem d_Md_upSet_38 : decode b_Md_upSet 38 = .ok (.iload_n 1, 1) := by decide +kernel
theorem d_Md_upSet_39 : decode b_Md_upSet 39 = .ok (.ireturn, 1) := by decide +kernel
theorem d_Md_state_0 : decode b_Md_state 0 = .ok (.aload_n 0, 1) := by decide +kernel
theorem d_Md_state_1 : decode b_Md_state 1 = .ok (.iload_n 1, 1) := by decide +kernel
theorem d_Md_state_2 : decode b_Md_state 2 = .ok (.iconst 0, 1) := by decide +kernel
theorem d_Md_state_3 : decode b_Md_state 3 = .ok (.aload_n 0, 1) := by decide +kernel
theorem d_Md_state_4 : decode b_Md_state 4 = .ok (.getfield 108, 3) := by decide +kernel
theorem d_Md_state_7 : decode b_Md_state 7 = .ok (.iconst 1, 1) := by decide +kernel
theorem d_Md_state_8 : decode b_Md_state 8 = .ok (.isub, 1) := by decide +kernel
theorem d_Md_state_9 : decode b_Md_state 9 = .ok (.invokestatic 96, 3) := by decide +kernel
theorem d_Md_state_12 : decode b_Md_state 12 = .ok (.ifCond .eq 16, 3) := by decide +kernel
theorem d_Md_state_15 : decode b_Md_state 15 = .ok (.iload_n 2, 1) := by decide +kernel
theorem d_Md_state_16 : decode b_Md_state 16 = .ok (.iconst 0, 1) := by decide +kernel
theorem d_Md_state_17 : decode b_Md_state 17 = .ok (.iconst 3, 1) := by decide +kernel
theorem d_Md_state_18 : decode b_Md_state 18 = .ok (.invokestatic 96, 3) := by decide +kernel
theorem d_Md_state_21 : decode b_Md_state 21 = .ok (.ifCond .eq 7, 3) := by decide +kernel
theorem d_Md_state_24 : decode b_Md_state 24 = .ok (.iconst 0, 1) := by decide +kernel
theorem d_Md_state_25 : decode b_Md_state 25 = .ok (.goto 4, 3) := by decide +kernel
theorem d_Md_state_28 : decode b_Md_state 28 = .ok (.iconst 1, 1) := by decide +kernel
theorem d_Md_state_29 : decode b_Md_state 29 = .ok (.putfield 92, 3) := by decide +kernel
theorem d_Md_state_32 : decode b_Md_state 32 = .ok (.aload_n 0, 1) := by decide +kernel
theorem d_Md_state_33 : decode b_Md_state 33 = .ok (.getfield 92, 3) := by decide +kernel
theorem d_Md_state_36 : decode b_Md_state 36 = .ok (.ifCond .le 5, 3) := by decide +kernel
theorem d_Md_state_39 : decode b_Md_state 39 = .ok (.iconst 0, 1) := by decide +kernel
theorem d_Md_state_40 : decode b_Md_state 40 = .ok (.ireturn, 1) := by decide +kernel
theorem d_Md_state_41 : decode b_Md_state 41 = .ok (.aload_n 0, 1) := by decide +kernel
theorem d_Md_state_42 : decode b_Md_state 42 = .ok (.invokevirtual 141, 3) := by decide +kernel
theorem d_Md_state_45 : decode b_Md_state 45 = .ok (.iload_n 2, 1) := by decide +kernel
theorem d_Md_state_46 : decode b_Md_state 46 = .ok (.ifCond .ne 12, 3) := by decide +kernel
theorem d_Md_state_49 : decode b_Md_state 49 = .ok (.aload_n 0, 1) := by decide +kernel
theorem d_Md_state_50 : decode b_Md_state 50 = .ok (.getfield 22, 3) := by decide +kernel
theorem d_Md_state_53 : decode b_Md_state 53 = .ok (.iload_n 1, 1) := by decide +kernel
theorem d_Md_state_54 : decode b_Md_state 54 = .ok (.iaload, 1) := by decide +kernel
theorem d_Md_state_55 : decode b_Md_state 55 = .ok (.goto 55, 3) := by decide +kernel
theorem d_Md_state_58 : decode b_Md_state 58 = .ok (.iload_n 2, 1) := by decide +kernel
theorem d_Md_state_59 : decode b_Md_state 59 = .ok (.iconst 1, 1) := by decide +kernel
theorem d_Md_state_60 : decode b_Md_state 60 = .ok (.if_icmp .ne 12, 3) := by decide +kernel
theorem d_Md_state_63 : decode b_Md_state 63 = .ok (.aload_n 0, 1) := by decide +kernel
theorem d_Md_state_64 : decode b_Md_state 64 = .ok (.getfield 25, 3) := by decide +kernel
theorem d_Md_state_67 : decode b_Md_state 67 = .ok (.iload_n 1, 1) := by decide +kernel
theorem d_Md_state_68 : decode b_Md_state 68 = .ok (.iaload, 1) := by decide +kernel
theorem d_Md_state_69 : decode b_Md_state 69 = .ok (.goto 41, 3) := by decide +kernel
theorem d_Md_state_72 : decode b_Md_state 72 = .ok (.iload_n 2, 1) := by decide +kernel
theorem d_Md_state_73 : decode b_Md_state 73 = .ok (.iconst 3, 1) := by decide +kernel
theorem d_Md_state_74 : decode b_Md_state 74 = .ok (.if_icmp .ne 12, 3) := by decide +kernel
theorem d_Md_state_77 : decode b_Md_state 77 = .ok (.aload_n 0, 1) := by decide +kernel
theorem d_Md_state_78 : decode b_Md_state 78 = .ok (.getfield 28, 3) := by decide +kernel
theorem d_Md_state_81 : decode b_Md_state 81 = .ok (.iload_n 1, 1) := by decide +kernel
theorem d_Md_state_82 : decode b_Md_state 82 = .ok (.iaload, 1) := by decide +kernel
theorem d_Md_state_83 : decode b_Md_state 83 = .ok (.goto 27, 3) := by decide +kernel
theorem d_Md_state_86 : decode b_Md_state 86 = .ok (.aload_n 0, 1) := by decide +kernel
theorem d_Md_state_87 : decode b_Md_state 87 = .ok (.aload_n 0, 1) := by decide +kernel
theorem d_Md_state_88 : decode b_Md_state 88 = .ok (.getfield 7, 3) := by decide +kernel
theorem d_Md_state_91 : decode b_Md_state 91 = .ok (.iload_n 1, 1) := by decide +kernel
theorem d_Md_state_92 : decode b_Md_state 92 = .ok (.iaload, 1) := by decide +kernel
theorem d_Md_state_93 : decode b_Md_state 93 = .ok (.aload_n 0, 1) := by decide +kernel
theorem d_Md_state_94 : decode b_Md_state 94 = .ok (.getfield 13, 3) := by decide +kernel
theorem d_Md_state_97 : decode b_Md_state 97 = .ok (.iload_n 1, 1) := by decide +kernel
theorem d_Md_state_98 : decode b_Md_state 98 = .ok (.iaload, 1) := by decide +kernel
theorem d_Md_state_99 : decode b_Md_state 99 = .ok (.invokevirtual 147, 3) := by decide +kernel
theorem d_Md_state_102 : decode b_Md_state 102 = .ok (.ifCond .eq 7, 3) := by decide +kernel
theorem d_Md_state_105 : decode b_Md_state 105 = .ok (.iconst 1, 1) := by decide +kernel
theorem d_Md_state_106 : decode b_Md_state 106 = .ok (.goto 4, 3) := by decide +kernel
theorem d_Md_state_109 : decode b_Md_state 109 = .ok (.iconst 0, 1) := by decide +kernel
theorem d_Md_state_110 : decode b_Md_state 110 = .ok (.ireturn, 1) := by decide +kernel
theorem d_Md_ups_0 : decode b_Md_ups 0 = .ok (.aload_n 0, 1) := by decide +kernel
theorem d_Md_ups_1 : decode b_Md_ups 1 = .ok (.iconst 0, 1) := by decide +kernel
theorem d_Md_ups_2 : decode b_Md_ups 2 = .ok (.putfield 92, 3) := by decide +kernel
theorem d_Md_ups_5 : decode b_Md_ups 5 = .ok (.aload_n 0, 1) := by decide +kernel
theorem d_Md_ups_6 : decode b_Md_ups 6 = .ok (.invokevirtual 203, 3) := by decide +kernel
theorem d_Md_ups_9 : decode b_Md_ups 9 = .ok (.ireturn, 1) := by decide +kernel
theorem d_Md_lit_0 : decode b_Md_lit 0 = .ok (.aload_n 0, 1) := by decide +kernel
theorem d_Md_lit_1 : decode b_Md_lit 1 = .ok (.iconst 0, 1) := by decide +kernel
theorem d_Md_lit_2 : decode b_Md_lit 2 = .ok (.putfield 92, 3) := by decide +kernel
theorem d_Md_lit_5 : decode b_Md_lit 5 = .ok (.aload_n 0, 1) := by decide +kernel
theorem d_Md_lit_6 : decode b_Md_lit 6 = .ok (.invokevirtual 141, 3) := by decide +kernel
theorem d_Md_lit_9 : decode b_Md_lit 9 = .ok (.iconst 0, 1) := by decide +kernel
theorem d_Md_lit_10 : decode b_Md_lit 10 = .ok (.istore_n 1, 1) := by decide +kernel
theorem d_Md_lit_11 : decode b_Md_lit 11 = .ok (.iconst 0, 1) := by decide +kernel
theorem d_Md_lit_12 : decode b_Md_lit 12 = .ok (.istore_n 2, 1) := by decide +kernel
theorem d_Md_lit_13 : decode b_Md_lit 13 = .ok (.iload_n 2, 1) := by decide +kernel
theorem d_Md_lit_14 : decode b_Md_lit 14 = .ok (.aload_n 0, 1) := by decide +kernel
theorem d_Md_lit_15 : decode b_Md_lit 15 = .ok (.getfield 123, 3) := by decide +kernel
theorem d_Md_lit_18 : decode b_Md_lit 18 = .ok (.if_icmp .ge 38, 3) := by decide +kernel
theorem d_Md_lit_21 : decode b_Md_lit 21 = .ok (.iload_n 1, 1) := by decide +kernel
theorem d_Md_lit_22 : decode b_Md_lit 22 = .ok (.aload_n 0, 1) := by decide +kernel
theorem d_Md_lit_23 : decode b_Md_lit 23 = .ok (.aload_n 0, 1) := by decide +kernel
theorem d_Md_lit_24 : decode b_Md_lit 24 = .ok (.getfield 59, 3) := by decide +kernel
theorem d_Md_lit_27 : decode b_Md_lit 27 = .ok (.iload_n 2, 1) := by decide +kernel
theorem d_Md_lit_28 : decode b_Md_lit 28 = .ok (.iaload, 1) := by decide +kernel
theorem d_Md_lit_29 : decode b_Md_lit 29 = .ok (.aload_n 0, 1) := by decide +kernel
theorem d_Md_lit_30 : decode b_Md_lit 30 = .ok (.getfield 62, 3) := by decide +kernel
theorem d_Md_lit_33 : decode b_Md_lit 33 = .ok (.iload_n 2, 1) := by decide +kernel
theorem d_Md_lit_34 : decode b_Md_lit 34 = .ok (.iaload, 1) := by decide +kernel
theorem d_Md_lit_35 : decode b_Md_lit 35 = .ok (.invokevirtual 147, 3) := by decide +kernel
theorem d_Md_lit_38 : decode b_Md_lit 38 = .ok (.ifCond .eq 9, 3) := by decide +kernel
theorem d_Md_lit_41 : decode b_Md_lit 41 = .ok (.iconst 1, 1) := by decide +kernel
theorem d_Md_lit_42 : decode b_Md_lit 42 = .ok (.iload_n 2, 1) := by decide +kernel
theorem d_Md_lit_43 : decode b_Md_lit 43 = .ok (.ishl, 1) := by decide +kernel
theorem d_Md_lit_44 : decode b_Md_lit 44 = .ok (.goto 4, 3) := by decide +kernel
theorem d_Md_lit_47 : decode b_Md_lit 47 = .ok (.iconst 0, 1) := by decide +kernel
theorem d_Md_lit_48 : decode b_Md_lit 48 = .ok (.ior, 1) := by decide +kernel
theorem d_Md_lit_49 : decode b_Md_lit 49 = .ok (.istore_n 1, 1) := by decide +kernel
theorem d_Md_lit_50 : decode b_Md_lit 50 = .ok (.iinc 2 1, 3) := by decide +kernel
theorem d_Md_lit_53 : decode b_Md_lit 53 = .ok (.goto (-40), 3) := by decide +kernel
theorem d_Md_lit_56 : decode b_Md_lit 56 = .ok (.iload_n 1, 1) := by decide +kernel
theorem d_Md_lit_57 : decode b_Md_lit 57 = .ok (.ireturn, 1) := by decide +kernel
theorem d_Md_node_0 : decode b_Md_node 0 = .ok (.aload_n 0, 1) := by decide +kernel
theorem d_Md_node_1 : decode b_Md_node 1 = .ok (.iload_n 1, 1) := by decide +kernel
theorem d_Md_node_2 : decode b_Md_node 2 = .ok (.invokestatic 100, 3) := by decide +kernel
theorem d_Md_node_5 : decode b_Md_node 5 = .ok (.ifCond .eq 7, 3) := by decide +kernel
theorem d_Md_node_8 : decode b_Md_node 8 = .ok (.iconst 0, 1) := by decide +kernel
theorem d_Md_node_9 : decode b_Md_node 9 = .ok (.goto 4, 3) := by decide +kernel
theorem d_Md_node_12 : decode b_Md_node 12 = .ok (.iconst 1, 1) := by decide +kernel
theorem d_Md_node_13 : decode b_Md_node 13 = .ok (.putfield 92, 3) := by decide +kernel
theorem d_Md_node_16 : decode b_Md_node 16 = .ok (.aload_n 0, 1) := by decide +kernel
theorem d_Md_node_17 : decode b_Md_node 17 = .ok (.getfield 92, 3) := by decide +kernel
theorem d_Md_node_20 : decode b_Md_node 20 = .ok (.ifCond .le 5, 3) := by decide +kernel
theorem d_Md_node_23 : decode b_Md_node 23 = .ok (.iconst 0, 1) := by decide +kernel
theorem d_Md_node_24 : decode b_Md_node 24 = .ok (.ireturn, 1) := by decide +kernel
theorem d_Md_node_25 : decode b_Md_node 25 = .ok (.aload_n 0, 1) := by decide +kernel
theorem d_Md_node_26 : decode b_Md_node 26 = .ok (.invokevirtual 141, 3) := by decide +kernel
theorem d_Md_node_29 : decode b_Md_node 29 = .ok (.aload_n 0, 1) := by decide +kernel
theorem d_Md_node_30 : decode b_Md_node 30 = .ok (.getfield 65, 3) := by decide +kernel
theorem d_Md_node_33 : decode b_Md_node 33 = .ok (.iload_n 1, 1) := by decide +kernel
theorem d_Md_node_34 : decode b_Md_node 34 = .ok (.baload, 1) := by decide +kernel
theorem d_Md_node_35 : decode b_Md_node 35 = .ok (.ifCond .eq 7, 3) := by decide +kernel
theorem d_Md_node_38 : decode b_Md_node 38 = .ok (.iconst 1, 1) := by decide +kernel
theorem d_Md_node_39 : decode b_Md_node 39 = .ok (.goto 4, 3) := by decide +kernel
theorem d_Md_node_42 : decode b_Md_node 42 = .ok (.iconst 0, 1) := by decide +kernel
theorem d_Md_node_43 : decode b_Md_node 43 = .ok (.aload_n 0, 1) := by decide +kernel
theorem d_Md_node_44 : decode b_Md_node 44 = .ok (.getfield 68, 3) := by decide +kernel
theorem d_Md_node_47 : decode b_Md_node 47 = .ok (.iload_n 1, 1) := by decide +kernel
theorem d_Md_node_48 : decode b_Md_node 48 = .ok (.baload, 1) := by decide +kernel
theorem d_Md_node_49 : decode b_Md_node 49 = .ok (.ifCond .eq 7, 3) := by decide +kernel
theorem d_Md_node_52 : decode b_Md_node 52 = .ok (.iconst 2, 1) := by decide +kernel
theorem d_Md_node_53 : decode b_Md_node 53 = .ok (.goto 4, 3) := by decide +kernel
theorem d_Md_node_56 : decode b_Md_node 56 = .ok (.iconst 0, 1) := by decide +kernel
theorem d_Md_node_57 : decode b_Md_node 57 = .ok (.iadd, 1) := by decide +kernel
theorem d_Md_node_58 : decode b_Md_node 58 = .ok (.ireturn, 1) := by decide +kernel
theorem d_Md_leads_0 : decode b_Md_leads 0 = .ok (.aload_n 0, 1) := by decide +kernel
theorem d_Md_leads_1 : decode b_Md_leads 1 = .ok (.iload_n 1, 1) := by decide +kernel
theorem d_Md_leads_2 : decode b_Md_leads 2 = .ok (.invokestatic 100, 3) := by decide +kernel
theorem d_Md_leads_5 : decode b_Md_leads 5 = .ok (.ifCond .eq 14, 3) := by decide +kernel
theorem d_Md_leads_8 : decode b_Md_leads 8 = .ok (.iload_n 2, 1) := by decide +kernel
theorem d_Md_leads_9 : decode b_Md_leads 9 = .ok (.invokestatic 100, 3) := by decide +kernel
theorem d_Md_leads_12 : decode b_Md_leads 12 = .ok (.ifCond .eq 7, 3) := by decide +kernel
theorem d_Md_leads_15 : decode b_Md_leads 15 = .ok (.iconst 0, 1) := by decide +kernel
theorem d_Md_leads_16 : decode b_Md_leads 16 = .ok (.goto 4, 3) := by decide +kernel
theorem d_Md_leads_19 : decode b_Md_leads 19 = .ok (.iconst 1, 1) := by decide +kernel
theorem d_Md_leads_20 : decode b_Md_leads 20 = .ok (.putfield 92, 3) := by decide +kernel
theorem d_Md_leads_23 : decode b_Md_leads 23 = .ok (.aload_n 0, 1) := by decide +kernel
theorem d_Md_leads_24 : decode b_Md_leads 24 = .ok (.getfield 92, 3) := by decide +kernel
theorem d_Md_leads_27 : decode b_Md_leads 27 = .ok (.ifCond .le 5, 3) := by decide +kernel
theorem d_Md_leads_30 : decode b_Md_leads 30 = .ok (.iconst 0, 1) := by decide +kernel
theorem d_Md_leads_31 : decode b_Md_leads 31 = .ok (.ireturn, 1) := by decide +kernel
theorem d_Md_leads_32 : decode b_Md_leads 32 = .ok (.aload_n 0, 1) := by decide +kernel
theorem d_Md_leads_33 : decode b_Md_leads 33 = .ok (.aload_n 0, 1) := by decide +kernel
theorem d_Md_leads_34 : decode b_Md_leads 34 = .ok (.getfield 65, 3) := by decide +kernel
theorem d_Md_leads_37 : decode b_Md_leads 37 = .ok (.iload_n 1, 1) := by decide +kernel
theorem d_Md_leads_38 : decode b_Md_leads 38 = .ok (.iconst 0, 1) := by decide +kernel
theorem d_Md_leads_39 : decode b_Md_leads 39 = .ok (.invokevirtual 133, 3) := by decide +kernel
theorem d_Md_leads_42 : decode b_Md_leads 42 = .ok (.aload_n 0, 1) := by decide +kernel
theorem d_Md_leads_43 : decode b_Md_leads 43 = .ok (.getfield 65, 3) := by decide +kernel
theorem d_Md_leads_46 : decode b_Md_leads 46 = .ok (.iload_n 2, 1) := by decide +kernel
theorem d_Md_leads_47 : decode b_Md_leads 47 = .ok (.baload, 1) := by decide +kernel
theorem d_Md_leads_48 : decode b_Md_leads 48 = .ok (.ireturn, 1) := by decide +kernel
theorem d_Md_blown_0 : decode b_Md_blown 0 = .ok (.aload_n 0, 1) := by decide +kernel
theorem d_Md_blown_1 : decode b_Md_blown 1 = .ok (.iconst 0, 1) := by decide +kernel
theorem d_Md_blown_2 : decode b_Md_blown 2 = .ok (.putfield 92, 3) := by decide +kernel
theorem d_Md_blown_5 : decode b_Md_blown 5 = .ok (.aload_n 0, 1) := by decide +kernel
theorem d_Md_blown_6 : decode b_Md_blown 6 = .ok (.getfield 137, 3) := by decide +kernel
theorem d_Md_blown_9 : decode b_Md_blown 9 = .ok (.ireturn, 1) := by decide +kernel
theorem d_Md_fuse_0 : decode b_Md_fuse 0 = .ok (.aload_n 0, 1) := by decide +kernel
theorem d_Md_fuse_1 : decode b_Md_fuse 1 = .ok (.iconst 0, 1) := by decide +kernel
theorem d_Md_fuse_2 : decode b_Md_fuse 2 = .ok (.putfield 92, 3) := by decide +kernel
theorem d_Md_fuse_5 : decode b_Md_fuse 5 = .ok (.aload_n 0, 1) := by decide +kernel
theorem d_Md_fuse_6 : decode b_Md_fuse 6 = .ok (.getfield 137, 3) := by decide +kernel
theorem d_Md_fuse_9 : decode b_Md_fuse 9 = .ok (.ifCond .ne 5, 3) := by decide +kernel
theorem d_Md_fuse_12 : decode b_Md_fuse 12 = .ok (.iconst 1, 1) := by decide +kernel
theorem d_Md_fuse_13 : decode b_Md_fuse 13 = .ok (.ireturn, 1) := by decide +kernel
theorem d_Md_fuse_14 : decode b_Md_fuse 14 = .ok (.aload_n 0, 1) := by decide +kernel
theorem d_Md_fuse_15 : decode b_Md_fuse 15 = .ok (.iconst 0, 1) := by decide +kernel
theorem d_Md_fuse_16 : decode b_Md_fuse 16 = .ok (.putfield 137, 3) := by decide +kernel
theorem d_Md_fuse_19 : decode b_Md_fuse 19 = .ok (.aload_n 0, 1) := by decide +kernel
theorem d_Md_fuse_20 : decode b_Md_fuse 20 = .ok (.invokevirtual 111, 3) := by decide +kernel
theorem d_Md_fuse_23 : decode b_Md_fuse 23 = .ok (.aload_n 0, 1) := by decide +kernel
theorem d_Md_fuse_24 : decode b_Md_fuse 24 = .ok (.getfield 137, 3) := by decide +kernel
theorem d_Md_fuse_27 : decode b_Md_fuse 27 = .ok (.ifCond .ne 7, 3) := by decide +kernel
theorem d_Md_fuse_30 : decode b_Md_fuse 30 = .ok (.iconst 1, 1) := by decide +kernel
theorem d_Md_fuse_31 : decode b_Md_fuse 31 = .ok (.goto 4, 3) := by decide +kernel
theorem d_Md_fuse_34 : decode b_Md_fuse 34 = .ok (.iconst 0, 1) := by decide +kernel
theorem d_Md_fuse_35 : decode b_Md_fuse 35 = .ok (.ireturn, 1) := by decide +kernel
theorem d_Md_count_0 : decode b_Md_count 0 = .ok (.aload_n 0, 1) := by decide +kernel
theorem d_Md_count_1 : decode b_Md_count 1 = .ok (.iconst 0, 1) := by decide +kernel
theorem d_Md_count_2 : decode b_Md_count 2 = .ok (.putfield 92, 3) := by decide +kernel
theorem d_Md_count_5 : decode b_Md_count 5 = .ok (.iload_n 1, 1) := by decide +kernel
theorem d_Md_count_6 : decode b_Md_count 6 = .ok (.iconst 5, 1) := by decide +kernel
theorem d_Md_count_7 : decode b_Md_count 7 = .ok (.if_icmp .ne 39, 3) := by decide +kernel
theorem d_Md_count_10 : decode b_Md_count 10 = .ok (.iconst 0, 1) := by decide +kernel
theorem d_Md_count_11 : decode b_Md_count 11 = .ok (.istore_n 2, 1) := by decide +kernel
theorem d_Md_count_12 : decode b_Md_count 12 = .ok (.iconst 0, 1) := by decide +kernel
theorem d_Md_count_13 : decode b_Md_count 13 = .ok (.istore_n 3, 1) := by decide +kernel
theorem d_Md_count_14 : decode b_Md_count 14 = .ok (.iload_n 3, 1) := by decide +kernel
theorem d_Md_count_15 : decode b_Md_count 15 = .ok (.aload_n 0, 1) := by decide +kernel
theorem d_Md_count_16 : decode b_Md_count 16 = .ok (.getfield 114, 3) := by decide +kernel
theorem d_Md_count_19 : decode b_Md_count 19 = .ok (.if_icmp .ge 25, 3) := by decide +kernel
theorem d_Md_count_22 : decode b_Md_count 22 = .ok (.iload_n 2, 1) := by decide +kernel
theorem d_Md_count_23 : decode b_Md_count 23 = .ok (.aload_n 0, 1) := by decide +kernel
theorem d_Md_count_24 : decode b_Md_count 24 = .ok (.iload_n 3, 1) := by decide +kernel
theorem d_Md_count_25 : decode b_Md_count 25 = .ok (.invokevirtual 126, 3) := by decide +kernel
theorem d_Md_count_28 : decode b_Md_count 28 = .ok (.ifCond .eq 7, 3) := by decide +kernel
theorem d_Md_count_31 : decode b_Md_count 31 = .ok (.iconst 1, 1) := by decide +kernel
theorem d_Md_count_32 : decode b_Md_count 32 = .ok (.goto 4, 3) := by decide +kernel
theorem d_Md_count_35 : decode b_Md_count 35 = .ok (.iconst 0, 1) := by decide +kernel
theorem d_Md_count_36 : decode b_Md_count 36 = .ok (.iadd, 1) := by decide +kernel
theorem d_Md_count_37 : decode b_Md_count 37 = .ok (.istore_n 2, 1) := by decide +kernel
theorem d_Md_count_38 : decode b_Md_count 38 = .ok (.iinc 3 1, 3) := by decide +kernel
theorem d_Md_count_41 : decode b_Md_count 41 = .ok (.goto (-27), 3) := by decide +kernel
theorem d_Md_count_44 : decode b_Md_count 44 = .ok (.iload_n 2, 1) := by decide +kernel
theorem d_Md_count_45 : decode b_Md_count 45 = .ok (.ireturn, 1) := by decide +kernel
theorem d_Md_count_46 : decode b_Md_count 46 = .ok (.iload_n 1, 1) := by decide +kernel
theorem d_Md_count_47 : decode b_Md_count 47 = .ok (.ifCond .ne 10, 3) := by decide +kernel
theorem d_Md_count_50 : decode b_Md_count 50 = .ok (.aload_n 0, 1) := by decide +kernel
theorem d_Md_count_51 : decode b_Md_count 51 = .ok (.getfield 108, 3) := by decide +kernel
theorem d_Md_count_54 : decode b_Md_count 54 = .ok (.goto 65, 3) := by decide +kernel
theorem d_Md_count_57 : decode b_Md_count 57 = .ok (.iload_n 1, 1) := by decide +kernel
theorem d_Md_count_58 : decode b_Md_count 58 = .ok (.iconst 1, 1) := by decide +kernel
theorem d_Md_count_59 : decode b_Md_count 59 = .ok (.if_icmp .ne 10, 3) := by decide +kernel
theorem d_Md_count_62 : decode b_Md_count 62 = .ok (.aload_n 0, 1) := by decide +kernel
theorem d_Md_count_63 : decode b_Md_count 63 = .ok (.getfield 114, 3) := by decide +kernel
theorem d_Md_count_66 : decode b_Md_count 66 = .ok (.goto 53, 3) := by decide +kernel
theorem d_Md_count_69 : decode b_Md_count 69 = .ok (.iload_n 1, 1) := by decide +kernel
theorem d_Md_count_70 : decode b_Md_count 70 = .ok (.iconst 2, 1) := by decide +kernel
theorem d_Md_count_71 : decode b_Md_count 71 = .ok (.if_icmp .ne 10, 3) := by decide +kernel
theorem d_Md_count_74 : decode b_Md_count 74 = .ok (.aload_n 0, 1) := by decide +kernel
theorem d_Md_count_75 : decode b_Md_count 75 = .ok (.getfield 117, 3) := by decide +kernel
theorem d_Md_count_78 : decode b_Md_count 78 = .ok (.goto 41, 3) := by decide +kernel
theorem d_Md_count_81 : decode b_Md_count 81 = .ok (.iload_n 1, 1) := by decide +kernel
theorem d_Md_count_82 : decode b_Md_count 82 = .ok (.iconst 3, 1) := by decide +kernel
theorem d_Md_count_83 : decode b_Md_count 83 = .ok (.if_icmp .ne 10, 3) := by decide +kernel
theorem d_Md_count_86 : decode b_Md_count 86 = .ok (.aload_n 0, 1) := by decide +kernel
theorem d_Md_count_87 : decode b_Md_count 87 = .ok (.getfield 120, 3) := by decide +kernel
theorem d_Md_count_90 : decode b_Md_count 90 = .ok (.goto 29, 3) := by decide +kernel
theorem d_Md_count_93 : decode b_Md_count 93 = .ok (.iload_n 1, 1) := by decide +kernel
theorem d_Md_count_94 : decode b_Md_count 94 = .ok (.iconst 4, 1) := by decide +kernel
theorem d_Md_count_95 : decode b_Md_count 95 = .ok (.if_icmp .ne 10, 3) := by decide +kernel
theorem d_Md_count_98 : decode b_Md_count 98 = .ok (.aload_n 0, 1) := by decide +kernel
theorem d_Md_count_99 : decode b_Md_count 99 = .ok (.getfield 123, 3) := by decide +kernel
theorem d_Md_count_102 : decode b_Md_count 102 = .ok (.goto 17, 3) := by decide +kernel
theorem d_Md_count_105 : decode b_Md_count 105 = .ok (.iload_n 1, 1) := by decide +kernel
theorem d_Md_count_106 : decode b_Md_count 106 = .ok (.bipush 6, 2) := by decide +kernel
theorem d_Md_count_108 : decode b_Md_count 108 = .ok (.if_icmp .ne 10, 3) := by decide +kernel
theorem d_Md_count_111 : decode b_Md_count 111 = .ok (.aload_n 0, 1) := by decide +kernel
theorem d_Md_count_112 : decode b_Md_count 112 = .ok (.getfield 171, 3) := by decide +kernel
theorem d_Md_count_115 : decode b_Md_count 115 = .ok (.goto 4, 3) := by decide +kernel
theorem d_Md_count_118 : decode b_Md_count 118 = .ok (.iconst (-1), 1) := by decide +kernel
theorem d_Md_count_119 : decode b_Md_count 119 = .ok (.ireturn, 1) := by decide +kernel
