theorem dD_init_0 : decode cD_init 0 = .ok (.aload_n 0, 1) := by decide +kernel
theorem dD_init_1 : decode cD_init 1 = .ok (.invokespecial 3, 3) := by decide +kernel
theorem dD_init_4 : decode cD_init 4 = .ok (.aload_n 0, 1) := by decide +kernel
theorem dD_init_5 : decode cD_init 5 = .ok (.iload_n 1, 1) := by decide +kernel
theorem dD_init_6 : decode cD_init 6 = .ok (.putfield 9, 3) := by decide +kernel
theorem dD_init_9 : decode cD_init 9 = .ok (.aload_n 0, 1) := by decide +kernel
theorem dD_init_10 : decode cD_init 10 = .ok (.iload_n 2, 1) := by decide +kernel
theorem dD_init_11 : decode cD_init 11 = .ok (.putfield 15, 3) := by decide +kernel
theorem dD_init_14 : decode cD_init 14 = .ok (.aload_n 0, 1) := by decide +kernel
theorem dD_init_15 : decode cD_init 15 = .ok (.iload_n 3, 1) := by decide +kernel
theorem dD_init_16 : decode cD_init 16 = .ok (.putfield 18, 3) := by decide +kernel
theorem dD_init_19 : decode cD_init 19 = .ok (.aload_n 0, 1) := by decide +kernel
theorem dD_init_20 : decode cD_init 20 = .ok (.iconst 0, 1) := by decide +kernel
theorem dD_init_21 : decode cD_init 21 = .ok (.putfield 21, 3) := by decide +kernel
theorem dD_init_24 : decode cD_init 24 = .ok (.aload_n 0, 1) := by decide +kernel
theorem dD_init_25 : decode cD_init 25 = .ok (.iconst (-1), 1) := by decide +kernel
theorem dD_init_26 : decode cD_init 26 = .ok (.putfield 24, 3) := by decide +kernel
theorem dD_init_29 : decode cD_init 29 = .ok (.return_, 1) := by decide +kernel
theorem dD_isMarked_0 : decode cD_isMarked 0 = .ok (.aload_n 0, 1) := by decide +kernel
theorem dD_isMarked_1 : decode cD_isMarked 1 = .ok (.getfield 27, 3) := by decide +kernel
theorem dD_isMarked_4 : decode cD_isMarked 4 = .ok (.iload_n 1, 1) := by decide +kernel
theorem dD_isMarked_5 : decode cD_isMarked 5 = .ok (.iand, 1) := by decide +kernel
theorem dD_isMarked_6 : decode cD_isMarked 6 = .ok (.ifCond .eq 7, 3) := by decide +kernel
theorem dD_isMarked_9 : decode cD_isMarked 9 = .ok (.iconst 1, 1) := by decide +kernel
theorem dD_isMarked_10 : decode cD_isMarked 10 = .ok (.goto 4, 3) := by decide +kernel
theorem dD_isMarked_13 : decode cD_isMarked 13 = .ok (.iconst 0, 1) := by decide +kernel
theorem dD_isMarked_14 : decode cD_isMarked 14 = .ok (.ireturn, 1) := by decide +kernel
theorem dD_hasBar_0 : decode cD_hasBar 0 = .ok (.aload_n 0, 1) := by decide +kernel
theorem dD_hasBar_1 : decode cD_hasBar 1 = .ok (.getfield 30, 3) := by decide +kernel
theorem dD_hasBar_4 : decode cD_hasBar 4 = .ok (.iconst 1, 1) := by decide +kernel
theorem dD_hasBar_5 : decode cD_hasBar 5 = .ok (.iload_n 1, 1) := by decide +kernel
theorem dD_hasBar_6 : decode cD_hasBar 6 = .ok (.ishl, 1) := by decide +kernel
theorem dD_hasBar_7 : decode cD_hasBar 7 = .ok (.iand, 1) := by decide +kernel
theorem dD_hasBar_8 : decode cD_hasBar 8 = .ok (.ifCond .eq 7, 3) := by decide +kernel
theorem dD_hasBar_11 : decode cD_hasBar 11 = .ok (.iconst 1, 1) := by decide +kernel
theorem dD_hasBar_12 : decode cD_hasBar 12 = .ok (.goto 4, 3) := by decide +kernel
theorem dD_hasBar_15 : decode cD_hasBar 15 = .ok (.iconst 0, 1) := by decide +kernel
theorem dD_hasBar_16 : decode cD_hasBar 16 = .ok (.ireturn, 1) := by decide +kernel
theorem dD_isOver_0 : decode cD_isOver 0 = .ok (.aload_n 0, 1) := by decide +kernel
theorem dD_isOver_1 : decode cD_isOver 1 = .ok (.getfield 21, 3) := by decide +kernel
theorem dD_isOver_4 : decode cD_isOver 4 = .ok (.bipush 6, 2) := by decide +kernel
theorem dD_isOver_6 : decode cD_isOver 6 = .ok (.if_icmp .eq 12, 3) := by decide +kernel
theorem dD_isOver_9 : decode cD_isOver 9 = .ok (.aload_n 0, 1) := by decide +kernel
theorem dD_isOver_10 : decode cD_isOver 10 = .ok (.getfield 21, 3) := by decide +kernel
theorem dD_isOver_13 : decode cD_isOver 13 = .ok (.bipush 7, 2) := by decide +kernel
theorem dD_isOver_15 : decode cD_isOver 15 = .ok (.if_icmp .ne 7, 3) := by decide +kernel
theorem dD_isOver_18 : decode cD_isOver 18 = .ok (.iconst 1, 1) := by decide +kernel
theorem dD_isOver_19 : decode cD_isOver 19 = .ok (.goto 4, 3) := by decide +kernel
theorem dD_isOver_22 : decode cD_isOver 22 = .ok (.iconst 0, 1) := by decide +kernel
theorem dD_isOver_23 : decode cD_isOver 23 = .ok (.ireturn, 1) := by decide +kernel
theorem dD_stateAllows_0 : decode cD_stateAllows 0 = .ok (.iload_n 1, 1) := by decide +kernel
theorem dD_stateAllows_1 : decode cD_stateAllows 1 = .ok (.tableswitch 211 0 9 #[55, 68, 97, 111, 125, 125, 139, 161, 182, 139], 55) := by decide +kernel
theorem dD_stateAllows_56 : decode cD_stateAllows 56 = .ok (.aload_n 0, 1) := by decide +kernel
theorem dD_stateAllows_57 : decode cD_stateAllows 57 = .ok (.getfield 21, 3) := by decide +kernel
theorem dD_stateAllows_60 : decode cD_stateAllows 60 = .ok (.ifCond .ne 7, 3) := by decide +kernel
theorem dD_stateAllows_63 : decode cD_stateAllows 63 = .ok (.iconst 1, 1) := by decide +kernel
theorem dD_stateAllows_64 : decode cD_stateAllows 64 = .ok (.goto 4, 3) := by decide +kernel
theorem dD_stateAllows_67 : decode cD_stateAllows 67 = .ok (.iconst 0, 1) := by decide +kernel
theorem dD_stateAllows_68 : decode cD_stateAllows 68 = .ok (.ireturn, 1) := by decide +kernel
theorem dD_stateAllows_69 : decode cD_stateAllows 69 = .ok (.aload_n 0, 1) := by decide +kernel
theorem dD_stateAllows_70 : decode cD_stateAllows 70 = .ok (.getfield 21, 3) := by decide +kernel
theorem dD_stateAllows_73 : decode cD_stateAllows 73 = .ok (.ifCond .eq 19, 3) := by decide +kernel
theorem dD_stateAllows_76 : decode cD_stateAllows 76 = .ok (.aload_n 0, 1) := by decide +kernel
theorem dD_stateAllows_77 : decode cD_stateAllows 77 = .ok (.getfield 21, 3) := by decide +kernel
theorem dD_stateAllows_80 : decode cD_stateAllows 80 = .ok (.iconst 1, 1) := by decide +kernel
theorem dD_stateAllows_81 : decode cD_stateAllows 81 = .ok (.if_icmp .eq 11, 3) := by decide +kernel
theorem dD_stateAllows_84 : decode cD_stateAllows 84 = .ok (.aload_n 0, 1) := by decide +kernel
theorem dD_stateAllows_85 : decode cD_stateAllows 85 = .ok (.getfield 21, 3) := by decide +kernel
theorem dD_stateAllows_88 : decode cD_stateAllows 88 = .ok (.iconst 2, 1) := by decide +kernel
theorem dD_stateAllows_89 : decode cD_stateAllows 89 = .ok (.if_icmp .ne 7, 3) := by decide +kernel
theorem dD_stateAllows_92 : decode cD_stateAllows 92 = .ok (.iconst 1, 1) := by decide +kernel
theorem dD_stateAllows_93 : decode cD_stateAllows 93 = .ok (.goto 4, 3) := by decide +kernel
theorem dD_stateAllows_96 : decode cD_stateAllows 96 = .ok (.iconst 0, 1) := by decide +kernel
theorem dD_stateAllows_97 : decode cD_stateAllows 97 = .ok (.ireturn, 1) := by decide +kernel
theorem dD_stateAllows_98 : decode cD_stateAllows 98 = .ok (.aload_n 0, 1) := by decide +kernel
theorem dD_stateAllows_99 : decode cD_stateAllows 99 = .ok (.getfield 21, 3) := by decide +kernel
theorem dD_stateAllows_102 : decode cD_stateAllows 102 = .ok (.iconst 1, 1) := by decide +kernel
theorem dD_stateAllows_103 : decode cD_stateAllows 103 = .ok (.if_icmp .ne 7, 3) := by decide +kernel
theorem dD_stateAllows_106 : decode cD_stateAllows 106 = .ok (.iconst 1, 1) := by decide +kernel
theorem dD_stateAllows_107 : decode cD_stateAllows 107 = .ok (.goto 4, 3) := by decide +kernel
theorem dD_stateAllows_110 : decode cD_stateAllows 110 = .ok (.iconst 0, 1) := by decide +kernel
theorem dD_stateAllows_111 : decode cD_stateAllows 111 = .ok (.ireturn, 1) := by decide +kernel
theorem dD_stateAllows_112 : decode cD_stateAllows 112 = .ok (.aload_n 0, 1) := by decide +kernel
theorem dD_stateAllows_113 : decode cD_stateAllows 113 = .ok (.getfield 21, 3) := by decide +kernel
theorem dD_stateAllows_116 : decode cD_stateAllows 116 = .ok (.iconst 2, 1) := by decide +kernel
theorem dD_stateAllows_117 : decode cD_stateAllows 117 = .ok (.if_icmp .ne 7, 3) := by decide +kernel
theorem dD_stateAllows_120 : decode cD_stateAllows 120 = .ok (.iconst 1, 1) := by decide +kernel
theorem dD_stateAllows_121 : decode cD_stateAllows 121 = .ok (.goto 4, 3) := by decide +kernel
theorem dD_stateAllows_124 : decode cD_stateAllows 124 = .ok (.iconst 0, 1) := by decide +kernel
theorem dD_stateAllows_125 : decode cD_stateAllows 125 = .ok (.ireturn, 1) := by decide +kernel
theorem dD_stateAllows_126 : decode cD_stateAllows 126 = .ok (.aload_n 0, 1) := by decide +kernel
theorem dD_stateAllows_127 : decode cD_stateAllows 127 = .ok (.getfield 21, 3) := by decide +kernel
theorem dD_stateAllows_130 : decode cD_stateAllows 130 = .ok (.iconst 3, 1) := by decide +kernel
theorem dD_stateAllows_131 : decode cD_stateAllows 131 = .ok (.if_icmp .ne 7, 3) := by decide +kernel
theorem dD_stateAllows_134 : decode cD_stateAllows 134 = .ok (.iconst 1, 1) := by decide +kernel
theorem dD_stateAllows_135 : decode cD_stateAllows 135 = .ok (.goto 4, 3) := by decide +kernel
theorem dD_stateAllows_138 : decode cD_stateAllows 138 = .ok (.iconst 0, 1) := by decide +kernel
theorem dD_stateAllows_139 : decode cD_stateAllows 139 = .ok (.ireturn, 1) := by decide +kernel
theorem dD_stateAllows_140 : decode cD_stateAllows 140 = .ok (.aload_n 0, 1) := by decide +kernel
theorem dD_stateAllows_141 : decode cD_stateAllows 141 = .ok (.getfield 21, 3) := by decide +kernel
theorem dD_stateAllows_144 : decode cD_stateAllows 144 = .ok (.iconst 2, 1) := by decide +kernel
theorem dD_stateAllows_145 : decode cD_stateAllows 145 = .ok (.if_icmp .eq 11, 3) := by decide +kernel
theorem dD_stateAllows_148 : decode cD_stateAllows 148 = .ok (.aload_n 0, 1) := by decide +kernel
theorem dD_stateAllows_149 : decode cD_stateAllows 149 = .ok (.getfield 21, 3) := by decide +kernel
theorem dD_stateAllows_152 : decode cD_stateAllows 152 = .ok (.iconst 3, 1) := by decide +kernel
theorem dD_stateAllows_153 : decode cD_stateAllows 153 = .ok (.if_icmp .ne 7, 3) := by decide +kernel
theorem dD_stateAllows_156 : decode cD_stateAllows 156 = .ok (.iconst 1, 1) := by decide +kernel
theorem dD_stateAllows_157 : decode cD_stateAllows 157 = .ok (.goto 4, 3) := by decide +kernel
theorem dD_stateAllows_160 : decode cD_stateAllows 160 = .ok (.iconst 0, 1) := by decide +kernel
theorem dD_stateAllows_161 : decode cD_stateAllows 161 = .ok (.ireturn, 1) := by decide +kernel
theorem dD_stateAllows_162 : decode cD_stateAllows 162 = .ok (.aload_n 0, 1) := by decide +kernel
theorem dD_stateAllows_163 : decode cD_stateAllows 163 = .ok (.getfield 21, 3) := by decide +kernel
theorem dD_stateAllows_166 : decode cD_stateAllows 166 = .ok (.iconst 4, 1) := by decide +kernel
theorem dD_stateAllows_167 : decode cD_stateAllows 167 = .ok (.if_icmp .ne 14, 3) := by decide +kernel
theorem dD_stateAllows_170 : decode cD_stateAllows 170 = .ok (.aload_n 0, 1) := by decide +kernel
theorem dD_stateAllows_171 : decode cD_stateAllows 171 = .ok (.getfield 15, 3) := by decide +kernel
theorem dD_stateAllows_174 : decode cD_stateAllows 174 = .ok (.ifCond .eq 7, 3) := by decide +kernel
theorem dD_stateAllows_177 : decode cD_stateAllows 177 = .ok (.iconst 1, 1) := by decide +kernel
theorem dD_stateAllows_178 : decode cD_stateAllows 178 = .ok (.goto 4, 3) := by decide +kernel
theorem dD_stateAllows_181 : decode cD_stateAllows 181 = .ok (.iconst 0, 1) := by decide +kernel
theorem dD_stateAllows_182 : decode cD_stateAllows 182 = .ok (.ireturn, 1) := by decide +kernel
theorem dD_stateAllows_183 : decode cD_stateAllows 183 = .ok (.aload_n 0, 1) := by decide +kernel
theorem dD_stateAllows_184 : decode cD_stateAllows 184 = .ok (.getfield 21, 3) := by decide +kernel
theorem dD_stateAllows_187 : decode cD_stateAllows 187 = .ok (.iconst 4, 1) := by decide +kernel
theorem dD_stateAllows_188 : decode cD_stateAllows 188 = .ok (.if_icmp .ne 10, 3) := by decide +kernel
theorem dD_stateAllows_191 : decode cD_stateAllows 191 = .ok (.aload_n 0, 1) := by decide +kernel
theorem dD_stateAllows_192 : decode cD_stateAllows 192 = .ok (.getfield 15, 3) := by decide +kernel
theorem dD_stateAllows_195 : decode cD_stateAllows 195 = .ok (.ifCond .eq 11, 3) := by decide +kernel
theorem dD_stateAllows_198 : decode cD_stateAllows 198 = .ok (.aload_n 0, 1) := by decide +kernel
theorem dD_stateAllows_199 : decode cD_stateAllows 199 = .ok (.getfield 21, 3) := by decide +kernel
theorem dD_stateAllows_202 : decode cD_stateAllows 202 = .ok (.iconst 5, 1) := by decide +kernel
theorem dD_stateAllows_203 : decode cD_stateAllows 203 = .ok (.if_icmp .ne 7, 3) := by decide +kernel
theorem dD_stateAllows_206 : decode cD_stateAllows 206 = .ok (.iconst 1, 1) := by decide +kernel
theorem dD_stateAllows_207 : decode cD_stateAllows 207 = .ok (.goto 4, 3) := by decide +kernel
theorem dD_stateAllows_210 : decode cD_stateAllows 210 = .ok (.iconst 0, 1) := by decide +kernel
theorem dD_stateAllows_211 : decode cD_stateAllows 211 = .ok (.ireturn, 1) := by decide +kernel
theorem dD_stateAllows_212 : decode cD_stateAllows 212 = .ok (.iconst 0, 1) := by decide +kernel
theorem dD_stateAllows_213 : decode cD_stateAllows 213 = .ok (.ireturn, 1) := by decide +kernel
theorem dD_marksAllow_0 : decode cD_marksAllow 0 = .ok (.iload_n 1, 1) := by decide +kernel
theorem dD_marksAllow_1 : decode cD_marksAllow 1 = .ok (.tableswitch 107 1 9 #[51, 65, 107, 107, 107, 87, 107, 107, 101], 51) := by decide +kernel
theorem dD_marksAllow_52 : decode cD_marksAllow 52 = .ok (.aload_n 0, 1) := by decide +kernel
theorem dD_marksAllow_53 : decode cD_marksAllow 53 = .ok (.iconst 1, 1) := by decide +kernel
theorem dD_marksAllow_54 : decode cD_marksAllow 54 = .ok (.invokevirtual 33, 3) := by decide +kernel
theorem dD_marksAllow_57 : decode cD_marksAllow 57 = .ok (.ifCond .ne 7, 3) := by decide +kernel
theorem dD_marksAllow_60 : decode cD_marksAllow 60 = .ok (.iconst 1, 1) := by decide +kernel
theorem dD_marksAllow_61 : decode cD_marksAllow 61 = .ok (.goto 4, 3) := by decide +kernel
theorem dD_marksAllow_64 : decode cD_marksAllow 64 = .ok (.iconst 0, 1) := by decide +kernel
theorem dD_marksAllow_65 : decode cD_marksAllow 65 = .ok (.ireturn, 1) := by decide +kernel
theorem dD_marksAllow_66 : decode cD_marksAllow 66 = .ok (.aload_n 0, 1) := by decide +kernel
theorem dD_marksAllow_67 : decode cD_marksAllow 67 = .ok (.getfield 15, 3) := by decide +kernel
theorem dD_marksAllow_70 : decode cD_marksAllow 70 = .ok (.iconst 1, 1) := by decide +kernel
theorem dD_marksAllow_71 : decode cD_marksAllow 71 = .ok (.if_icmp .eq 11, 3) := by decide +kernel
theorem dD_marksAllow_74 : decode cD_marksAllow 74 = .ok (.aload_n 0, 1) := by decide +kernel
theorem dD_marksAllow_75 : decode cD_marksAllow 75 = .ok (.iconst 1, 1) := by decide +kernel
theorem dD_marksAllow_76 : decode cD_marksAllow 76 = .ok (.invokevirtual 33, 3) := by decide +kernel
theorem dD_marksAllow_79 : decode cD_marksAllow 79 = .ok (.ifCond .eq 7, 3) := by decide +kernel
theorem dD_marksAllow_82 : decode cD_marksAllow 82 = .ok (.iconst 1, 1) := by decide +kernel
theorem dD_marksAllow_83 : decode cD_marksAllow 83 = .ok (.goto 4, 3) := by decide +kernel
theorem dD_marksAllow_86 : decode cD_marksAllow 86 = .ok (.iconst 0, 1) := by decide +kernel
theorem dD_marksAllow_87 : decode cD_marksAllow 87 = .ok (.ireturn, 1) := by decide +kernel
theorem dD_marksAllow_88 : decode cD_marksAllow 88 = .ok (.aload_n 0, 1) := by decide +kernel
theorem dD_marksAllow_89 : decode cD_marksAllow 89 = .ok (.iconst 2, 1) := by decide +kernel
theorem dD_marksAllow_90 : decode cD_marksAllow 90 = .ok (.invokevirtual 33, 3) := by decide +kernel
theorem dD_marksAllow_93 : decode cD_marksAllow 93 = .ok (.ifCond .ne 7, 3) := by decide +kernel
theorem dD_marksAllow_96 : decode cD_marksAllow 96 = .ok (.iconst 1, 1) := by decide +kernel
theorem dD_marksAllow_97 : decode cD_marksAllow 97 = .ok (.goto 4, 3) := by decide +kernel
theorem dD_marksAllow_100 : decode cD_marksAllow 100 = .ok (.iconst 0, 1) := by decide +kernel
theorem dD_marksAllow_101 : decode cD_marksAllow 101 = .ok (.ireturn, 1) := by decide +kernel
theorem dD_marksAllow_102 : decode cD_marksAllow 102 = .ok (.aload_n 0, 1) := by decide +kernel
theorem dD_marksAllow_103 : decode cD_marksAllow 103 = .ok (.iconst 4, 1) := by decide +kernel
theorem dD_marksAllow_104 : decode cD_marksAllow 104 = .ok (.invokevirtual 33, 3) := by decide +kernel
theorem dD_marksAllow_107 : decode cD_marksAllow 107 = .ok (.ireturn, 1) := by decide +kernel
theorem dD_marksAllow_108 : decode cD_marksAllow 108 = .ok (.iconst 1, 1) := by decide +kernel
theorem dD_marksAllow_109 : decode cD_marksAllow 109 = .ok (.ireturn, 1) := by decide +kernel
theorem dD_carryOut_0 : decode cD_carryOut 0 = .ok (.iload_n 1, 1) := by decide +kernel
theorem dD_carryOut_1 : decode cD_carryOut 1 = .ok (.tableswitch 160 0 9 #[55, 64, 77, 86, 77, 95, 114, 127, 136, 146], 55) := by decide +kernel
theorem dD_carryOut_56 : decode cD_carryOut 56 = .ok (.aload_n 0, 1) := by decide +kernel
theorem dD_carryOut_57 : decode cD_carryOut 57 = .ok (.iconst 1, 1) := by decide +kernel
theorem dD_carryOut_58 : decode cD_carryOut 58 = .ok (.iload_n 2, 1) := by decide +kernel
theorem dD_carryOut_59 : decode cD_carryOut 59 = .ok (.invokevirtual 37, 3) := by decide +kernel
theorem dD_carryOut_62 : decode cD_carryOut 62 = .ok (.goto 99, 3) := by decide +kernel
theorem dD_carryOut_65 : decode cD_carryOut 65 = .ok (.aload_n 0, 1) := by decide +kernel
theorem dD_carryOut_66 : decode cD_carryOut 66 = .ok (.dup, 1) := by decide +kernel
theorem dD_carryOut_67 : decode cD_carryOut 67 = .ok (.getfield 27, 3) := by decide +kernel
theorem dD_carryOut_70 : decode cD_carryOut 70 = .ok (.iconst 1, 1) := by decide +kernel
theorem dD_carryOut_71 : decode cD_carryOut 71 = .ok (.ior, 1) := by decide +kernel
theorem dD_carryOut_72 : decode cD_carryOut 72 = .ok (.putfield 27, 3) := by decide +kernel
theorem dD_carryOut_75 : decode cD_carryOut 75 = .ok (.goto 86, 3) := by decide +kernel
theorem dD_carryOut_78 : decode cD_carryOut 78 = .ok (.aload_n 0, 1) := by decide +kernel
theorem dD_carryOut_79 : decode cD_carryOut 79 = .ok (.iconst 2, 1) := by decide +kernel
theorem dD_carryOut_80 : decode cD_carryOut 80 = .ok (.iload_n 2, 1) := by decide +kernel
theorem dD_carryOut_81 : decode cD_carryOut 81 = .ok (.invokevirtual 37, 3) := by decide +kernel
theorem dD_carryOut_84 : decode cD_carryOut 84 = .ok (.goto 77, 3) := by decide +kernel
theorem dD_carryOut_87 : decode cD_carryOut 87 = .ok (.aload_n 0, 1) := by decide +kernel
theorem dD_carryOut_88 : decode cD_carryOut 88 = .ok (.iconst 3, 1) := by decide +kernel
theorem dD_carryOut_89 : decode cD_carryOut 89 = .ok (.iload_n 2, 1) := by decide +kernel
theorem dD_carryOut_90 : decode cD_carryOut 90 = .ok (.invokevirtual 37, 3) := by decide +kernel
theorem dD_carryOut_93 : decode cD_carryOut 93 = .ok (.goto 68, 3) := by decide +kernel
theorem dD_carryOut_96 : decode cD_carryOut 96 = .ok (.aload_n 0, 1) := by decide +kernel
theorem dD_carryOut_97 : decode cD_carryOut 97 = .ok (.dup, 1) := by decide +kernel
theorem dD_carryOut_98 : decode cD_carryOut 98 = .ok (.getfield 27, 3) := by decide +kernel
theorem dD_carryOut_101 : decode cD_carryOut 101 = .ok (.iconst 4, 1) := by decide +kernel
theorem dD_carryOut_102 : decode cD_carryOut 102 = .ok (.ior, 1) := by decide +kernel
theorem dD_carryOut_103 : decode cD_carryOut 103 = .ok (.putfield 27, 3) := by decide +kernel
theorem dD_carryOut_106 : decode cD_carryOut 106 = .ok (.aload_n 0, 1) := by decide +kernel
theorem dD_carryOut_107 : decode cD_carryOut 107 = .ok (.iconst 2, 1) := by decide +kernel
theorem dD_carryOut_108 : decode cD_carryOut 108 = .ok (.iload_n 2, 1) := by decide +kernel
theorem dD_carryOut_109 : decode cD_carryOut 109 = .ok (.invokevirtual 37, 3) := by decide +kernel
theorem dD_carryOut_112 : decode cD_carryOut 112 = .ok (.goto 49, 3) := by decide +kernel
theorem dD_carryOut_115 : decode cD_carryOut 115 = .ok (.aload_n 0, 1) := by decide +kernel
theorem dD_carryOut_116 : decode cD_carryOut 116 = .ok (.dup, 1) := by decide +kernel
theorem dD_carryOut_117 : decode cD_carryOut 117 = .ok (.getfield 27, 3) := by decide +kernel
theorem dD_carryOut_120 : decode cD_carryOut 120 = .ok (.iconst 2, 1) := by decide +kernel
theorem dD_carryOut_121 : decode cD_carryOut 121 = .ok (.ior, 1) := by decide +kernel
theorem dD_carryOut_122 : decode cD_carryOut 122 = .ok (.putfield 27, 3) := by decide +kernel
theorem dD_carryOut_125 : decode cD_carryOut 125 = .ok (.goto 36, 3) := by decide +kernel
theorem dD_carryOut_128 : decode cD_carryOut 128 = .ok (.aload_n 0, 1) := by decide +kernel
theorem dD_carryOut_129 : decode cD_carryOut 129 = .ok (.iconst 5, 1) := by decide +kernel
theorem dD_carryOut_130 : decode cD_carryOut 130 = .ok (.iload_n 2, 1) := by decide +kernel
theorem dD_carryOut_131 : decode cD_carryOut 131 = .ok (.invokevirtual 37, 3) := by decide +kernel
theorem dD_carryOut_134 : decode cD_carryOut 134 = .ok (.goto 27, 3) := by decide +kernel
theorem dD_carryOut_137 : decode cD_carryOut 137 = .ok (.aload_n 0, 1) := by decide +kernel
theorem dD_carryOut_138 : decode cD_carryOut 138 = .ok (.bipush 7, 2) := by decide +kernel
theorem dD_carryOut_140 : decode cD_carryOut 140 = .ok (.iload_n 2, 1) := by decide +kernel
theorem dD_carryOut_141 : decode cD_carryOut 141 = .ok (.invokevirtual 37, 3) := by decide +kernel
theorem dD_carryOut_144 : decode cD_carryOut 144 = .ok (.goto 17, 3) := by decide +kernel
theorem dD_carryOut_147 : decode cD_carryOut 147 = .ok (.aload_n 0, 1) := by decide +kernel
theorem dD_carryOut_148 : decode cD_carryOut 148 = .ok (.dup, 1) := by decide +kernel
theorem dD_carryOut_149 : decode cD_carryOut 149 = .ok (.getfield 27, 3) := by decide +kernel
theorem dD_carryOut_152 : decode cD_carryOut 152 = .ok (.bipush (-5), 2) := by decide +kernel
theorem dD_carryOut_154 : decode cD_carryOut 154 = .ok (.iand, 1) := by decide +kernel
theorem dD_carryOut_155 : decode cD_carryOut 155 = .ok (.putfield 27, 3) := by decide +kernel
theorem dD_carryOut_158 : decode cD_carryOut 158 = .ok (.goto 3, 3) := by decide +kernel
theorem dD_carryOut_161 : decode cD_carryOut 161 = .ok (.aload_n 0, 1) := by decide +kernel
theorem dD_carryOut_162 : decode cD_carryOut 162 = .ok (.iload_n 2, 1) := by decide +kernel
theorem dD_carryOut_163 : decode cD_carryOut 163 = .ok (.invokevirtual 41, 3) := by decide +kernel
theorem dD_carryOut_166 : decode cD_carryOut 166 = .ok (.return_, 1) := by decide +kernel
theorem dD_releaseIfNothingHolds_0 : decode cD_releaseIfNothingHolds 0 = .ok (.aload_n 0, 1) := by decide +kernel
theorem dD_releaseIfNothingHolds_1 : decode cD_releaseIfNothingHolds 1 = .ok (.getfield 15, 3) := by decide +kernel
theorem dD_releaseIfNothingHolds_4 : decode cD_releaseIfNothingHolds 4 = .ok (.ifCond .ne 11, 3) := by decide +kernel
theorem dD_releaseIfNothingHolds_7 : decode cD_releaseIfNothingHolds 7 = .ok (.aload_n 0, 1) := by decide +kernel
theorem dD_releaseIfNothingHolds_8 : decode cD_releaseIfNothingHolds 8 = .ok (.iconst 2, 1) := by decide +kernel
theorem dD_releaseIfNothingHolds_9 : decode cD_releaseIfNothingHolds 9 = .ok (.invokevirtual 33, 3) := by decide +kernel
theorem dD_releaseIfNothingHolds_12 : decode cD_releaseIfNothingHolds 12 = .ok (.ifCond .eq 7, 3) := by decide +kernel
theorem dD_releaseIfNothingHolds_15 : decode cD_releaseIfNothingHolds 15 = .ok (.iconst 1, 1) := by decide +kernel
theorem dD_releaseIfNothingHolds_16 : decode cD_releaseIfNothingHolds 16 = .ok (.goto 4, 3) := by decide +kernel
theorem dD_releaseIfNothingHolds_19 : decode cD_releaseIfNothingHolds 19 = .ok (.iconst 0, 1) := by decide +kernel
theorem dD_releaseIfNothingHolds_20 : decode cD_releaseIfNothingHolds 20 = .ok (.istore_n 2, 1) := by decide +kernel
theorem dD_releaseIfNothingHolds_21 : decode cD_releaseIfNothingHolds 21 = .ok (.aload_n 0, 1) := by decide +kernel
theorem dD_releaseIfNothingHolds_22 : decode cD_releaseIfNothingHolds 22 = .ok (.getfield 21, 3) := by decide +kernel
theorem dD_releaseIfNothingHolds_25 : decode cD_releaseIfNothingHolds 25 = .ok (.iconst 2, 1) := by decide +kernel
theorem dD_releaseIfNothingHolds_26 : decode cD_releaseIfNothingHolds 26 = .ok (.if_icmp .ne 36, 3) := by decide +kernel
theorem dD_releaseIfNothingHolds_29 : decode cD_releaseIfNothingHolds 29 = .ok (.aload_n 0, 1) := by decide +kernel
theorem dD_releaseIfNothingHolds_30 : decode cD_releaseIfNothingHolds 30 = .ok (.getfield 30, 3) := by decide +kernel
theorem dD_releaseIfNothingHolds_33 : decode cD_releaseIfNothingHolds 33 = .ok (.ifCond .ne 29, 3) := by decide +kernel
theorem dD_releaseIfNothingHolds_36 : decode cD_releaseIfNothingHolds 36 = .ok (.aload_n 0, 1) := by decide +kernel
theorem dD_releaseIfNothingHolds_37 : decode cD_releaseIfNothingHolds 37 = .ok (.iconst 4, 1) := by decide +kernel
theorem dD_releaseIfNothingHolds_38 : decode cD_releaseIfNothingHolds 38 = .ok (.invokevirtual 33, 3) := by decide +kernel
theorem dD_releaseIfNothingHolds_41 : decode cD_releaseIfNothingHolds 41 = .ok (.ifCond .ne 21, 3) := by decide +kernel
theorem dD_releaseIfNothingHolds_44 : decode cD_releaseIfNothingHolds 44 = .ok (.aload_n 0, 1) := by decide +kernel
theorem dD_releaseIfNothingHolds_45 : decode cD_releaseIfNothingHolds 45 = .ok (.iconst 1, 1) := by decide +kernel
theorem dD_releaseIfNothingHolds_46 : decode cD_releaseIfNothingHolds 46 = .ok (.invokevirtual 33, 3) := by decide +kernel
theorem dD_releaseIfNothingHolds_49 : decode cD_releaseIfNothingHolds 49 = .ok (.ifCond .eq 13, 3) := by decide +kernel
theorem dD_releaseIfNothingHolds_52 : decode cD_releaseIfNothingHolds 52 = .ok (.iload_n 2, 1) := by decide +kernel
theorem dD_releaseIfNothingHolds_53 : decode cD_releaseIfNothingHolds 53 = .ok (.ifCond .eq 9, 3) := by decide +kernel
theorem dD_releaseIfNothingHolds_56 : decode cD_releaseIfNothingHolds 56 = .ok (.aload_n 0, 1) := by decide +kernel
theorem dD_releaseIfNothingHolds_57 : decode cD_releaseIfNothingHolds 57 = .ok (.iconst 4, 1) := by decide +kernel
theorem dD_releaseIfNothingHolds_58 : decode cD_releaseIfNothingHolds 58 = .ok (.iload_n 1, 1) := by decide +kernel
theorem dD_releaseIfNothingHolds_59 : decode cD_releaseIfNothingHolds 59 = .ok (.invokevirtual 37, 3) := by decide +kernel
theorem dD_releaseIfNothingHolds_62 : decode cD_releaseIfNothingHolds 62 = .ok (.return_, 1) := by decide +kernel
theorem dD_requestInvalidation_0 : decode cD_requestInvalidation 0 = .ok (.aload_n 0, 1) := by decide +kernel
theorem dD_requestInvalidation_1 : decode cD_requestInvalidation 1 = .ok (.getfield 21, 3) := by decide +kernel
theorem dD_requestInvalidation_4 : decode cD_requestInvalidation 4 = .ok (.tableswitch 74 0 4 #[36, 36, 43, 43, 58], 36) := by decide +kernel
theorem dD_requestInvalidation_40 : decode cD_requestInvalidation 40 = .ok (.aload_n 0, 1) := by decide +kernel
theorem dD_requestInvalidation_41 : decode cD_requestInvalidation 41 = .ok (.iload_n 2, 1) := by decide +kernel
theorem dD_requestInvalidation_42 : decode cD_requestInvalidation 42 = .ok (.iload_n 3, 1) := by decide +kernel
theorem dD_requestInvalidation_43 : decode cD_requestInvalidation 43 = .ok (.invokevirtual 45, 3) := by decide +kernel
theorem dD_requestInvalidation_46 : decode cD_requestInvalidation 46 = .ok (.ireturn, 1) := by decide +kernel
theorem dD_requestInvalidation_47 : decode cD_requestInvalidation 47 = .ok (.iload_n 2, 1) := by decide +kernel
theorem dD_requestInvalidation_48 : decode cD_requestInvalidation 48 = .ok (.ifCond .ne 7, 3) := by decide +kernel
theorem dD_requestInvalidation_51 : decode cD_requestInvalidation 51 = .ok (.iconst 0, 1) := by decide +kernel
theorem dD_requestInvalidation_52 : decode cD_requestInvalidation 52 = .ok (.goto 9, 3) := by decide +kernel
theorem dD_requestInvalidation_55 : decode cD_requestInvalidation 55 = .ok (.aload_n 0, 1) := by decide +kernel
theorem dD_requestInvalidation_56 : decode cD_requestInvalidation 56 = .ok (.iload_n 2, 1) := by decide +kernel
theorem dD_requestInvalidation_57 : decode cD_requestInvalidation 57 = .ok (.iload_n 3, 1) := by decide +kernel
theorem dD_requestInvalidation_58 : decode cD_requestInvalidation 58 = .ok (.invokevirtual 45, 3) := by decide +kernel
theorem dD_requestInvalidation_61 : decode cD_requestInvalidation 61 = .ok (.ireturn, 1) := by decide +kernel
theorem dD_requestInvalidation_62 : decode cD_requestInvalidation 62 = .ok (.iload_n 2, 1) := by decide +kernel
theorem dD_requestInvalidation_63 : decode cD_requestInvalidation 63 = .ok (.ifCond .ne 7, 3) := by decide +kernel
theorem dD_requestInvalidation_66 : decode cD_requestInvalidation 66 = .ok (.iconst 0, 1) := by decide +kernel
theorem dD_requestInvalidation_67 : decode cD_requestInvalidation 67 = .ok (.goto 10, 3) := by decide +kernel
theorem dD_requestInvalidation_70 : decode cD_requestInvalidation 70 = .ok (.aload_n 0, 1) := by decide +kernel
theorem dD_requestInvalidation_71 : decode cD_requestInvalidation 71 = .ok (.iload_n 1, 1) := by decide +kernel
theorem dD_requestInvalidation_72 : decode cD_requestInvalidation 72 = .ok (.iload_n 2, 1) := by decide +kernel
theorem dD_requestInvalidation_73 : decode cD_requestInvalidation 73 = .ok (.iload_n 3, 1) := by decide +kernel
theorem dD_requestInvalidation_74 : decode cD_requestInvalidation 74 = .ok (.invokevirtual 49, 3) := by decide +kernel
theorem dD_requestInvalidation_77 : decode cD_requestInvalidation 77 = .ok (.ireturn, 1) := by decide +kernel
theorem dD_requestInvalidation_78 : decode cD_requestInvalidation 78 = .ok (.iconst 0, 1) := by decide +kernel
theorem dD_requestInvalidation_79 : decode cD_requestInvalidation 79 = .ok (.ireturn, 1) := by decide +kernel
theorem dD_requestAsOneOfTwo_0 : decode cD_requestAsOneOfTwo 0 = .ok (.aload_n 0, 1) := by decide +kernel
theorem dD_requestAsOneOfTwo_1 : decode cD_requestAsOneOfTwo 1 = .ok (.getfield 24, 3) := by decide +kernel
theorem dD_requestAsOneOfTwo_4 : decode cD_requestAsOneOfTwo 4 = .ok (.iconst (-1), 1) := by decide +kernel
theorem dD_requestAsOneOfTwo_5 : decode cD_requestAsOneOfTwo 5 = .ok (.if_icmp .ne 10, 3) := by decide +kernel
theorem dD_requestAsOneOfTwo_8 : decode cD_requestAsOneOfTwo 8 = .ok (.aload_n 0, 1) := by decide +kernel
theorem dD_requestAsOneOfTwo_9 : decode cD_requestAsOneOfTwo 9 = .ok (.iload_n 1, 1) := by decide +kernel
theorem dD_requestAsOneOfTwo_10 : decode cD_requestAsOneOfTwo 10 = .ok (.putfield 24, 3) := by decide +kernel
theorem dD_requestAsOneOfTwo_13 : decode cD_requestAsOneOfTwo 13 = .ok (.iconst 2, 1) := by decide +kernel
theorem dD_requestAsOneOfTwo_14 : decode cD_requestAsOneOfTwo 14 = .ok (.ireturn, 1) := by decide +kernel
theorem dD_requestAsOneOfTwo_15 : decode cD_requestAsOneOfTwo 15 = .ok (.aload_n 0, 1) := by decide +kernel
theorem dD_requestAsOneOfTwo_16 : decode cD_requestAsOneOfTwo 16 = .ok (.getfield 24, 3) := by decide +kernel
theorem dD_requestAsOneOfTwo_19 : decode cD_requestAsOneOfTwo 19 = .ok (.iload_n 1, 1) := by decide +kernel
theorem dD_requestAsOneOfTwo_20 : decode cD_requestAsOneOfTwo 20 = .ok (.if_icmp .ne 7, 3) := by decide +kernel
theorem dD_requestAsOneOfTwo_23 : decode cD_requestAsOneOfTwo 23 = .ok (.iconst 0, 1) := by decide +kernel
theorem dD_requestAsOneOfTwo_24 : decode cD_requestAsOneOfTwo 24 = .ok (.goto 9, 3) := by decide +kernel
theorem dD_requestAsOneOfTwo_27 : decode cD_requestAsOneOfTwo 27 = .ok (.aload_n 0, 1) := by decide +kernel
theorem dD_requestAsOneOfTwo_28 : decode cD_requestAsOneOfTwo 28 = .ok (.iload_n 2, 1) := by decide +kernel
theorem dD_requestAsOneOfTwo_29 : decode cD_requestAsOneOfTwo 29 = .ok (.iload_n 3, 1) := by decide +kernel
theorem dD_requestAsOneOfTwo_30 : decode cD_requestAsOneOfTwo 30 = .ok (.invokevirtual 45, 3) := by decide +kernel
theorem dD_requestAsOneOfTwo_33 : decode cD_requestAsOneOfTwo 33 = .ok (.ireturn, 1) := by decide +kernel
theorem dD_invalidateFor_0 : decode cD_invalidateFor 0 = .ok (.aload_n 0, 1) := by decide +kernel
theorem dD_invalidateFor_1 : decode cD_invalidateFor 1 = .ok (.iload_n 1, 1) := by decide +kernel
theorem dD_invalidateFor_2 : decode cD_invalidateFor 2 = .ok (.putfield 53, 3) := by decide +kernel
theorem dD_invalidateFor_5 : decode cD_invalidateFor 5 = .ok (.aload_n 0, 1) := by decide +kernel
theorem dD_invalidateFor_6 : decode cD_invalidateFor 6 = .ok (.bipush 6, 2) := by decide +kernel
theorem dD_invalidateFor_8 : decode cD_invalidateFor 8 = .ok (.iload_n 2, 1) := by decide +kernel
theorem dD_invalidateFor_9 : decode cD_invalidateFor 9 = .ok (.invokevirtual 37, 3) := by decide +kernel
theorem dD_invalidateFor_12 : decode cD_invalidateFor 12 = .ok (.iconst 1, 1) := by decide +kernel
theorem dD_invalidateFor_13 : decode cD_invalidateFor 13 = .ok (.ireturn, 1) := by decide +kernel
theorem dD_become_0 : decode cD_become 0 = .ok (.aload_n 0, 1) := by decide +kernel
theorem dD_become_1 : decode cD_become 1 = .ok (.iload_n 1, 1) := by decide +kernel
theorem dD_become_2 : decode cD_become 2 = .ok (.putfield 21, 3) := by decide +kernel
theorem dD_become_5 : decode cD_become 5 = .ok (.aload_n 0, 1) := by decide +kernel
theorem dD_become_6 : decode cD_become 6 = .ok (.iload_n 2, 1) := by decide +kernel
theorem dD_become_7 : decode cD_become 7 = .ok (.putfield 56, 3) := by decide +kernel
theorem dD_become_10 : decode cD_become 10 = .ok (.aload_n 0, 1) := by decide +kernel
theorem dD_become_11 : decode cD_become 11 = .ok (.iconst (-1), 1) := by decide +kernel
theorem dD_become_12 : decode cD_become 12 = .ok (.putfield 24, 3) := by decide +kernel
theorem dD_become_15 : decode cD_become 15 = .ok (.return_, 1) := by decide +kernel
theorem dD_write_0 : decode cD_write 0 = .ok (.aload_n 1, 1) := by decide +kernel
theorem dD_write_1 : decode cD_write 1 = .ok (.aconst_null, 1) := by decide +kernel
theorem dD_write_2 : decode cD_write 2 = .ok (.putfield 59, 3) := by decide +kernel
theorem dD_write_5 : decode cD_write 5 = .ok (.aload_n 0, 1) := by decide +kernel
theorem dD_write_6 : decode cD_write 6 = .ok (.getfield 65, 3) := by decide +kernel
theorem dD_write_9 : decode cD_write 9 = .ok (.ifnonnull 11, 3) := by decide +kernel
theorem dD_write_12 : decode cD_write 12 = .ok (.aload_n 0, 1) := by decide +kernel
theorem dD_write_13 : decode cD_write 13 = .ok (.aload_n 1, 1) := by decide +kernel
theorem dD_write_14 : decode cD_write 14 = .ok (.putfield 68, 3) := by decide +kernel
theorem dD_write_17 : decode cD_write 17 = .ok (.goto 11, 3) := by decide +kernel
theorem dD_write_20 : decode cD_write 20 = .ok (.aload_n 0, 1) := by decide +kernel
theorem dD_write_21 : decode cD_write 21 = .ok (.getfield 65, 3) := by decide +kernel
theorem dD_write_24 : decode cD_write 24 = .ok (.aload_n 1, 1) := by decide +kernel
theorem dD_write_25 : decode cD_write 25 = .ok (.putfield 59, 3) := by decide +kernel
theorem dD_write_28 : decode cD_write 28 = .ok (.aload_n 0, 1) := by decide +kernel
theorem dD_write_29 : decode cD_write 29 = .ok (.aload_n 1, 1) := by decide +kernel
theorem dD_write_30 : decode cD_write 30 = .ok (.putfield 65, 3) := by decide +kernel
theorem dD_write_33 : decode cD_write 33 = .ok (.aload_n 0, 1) := by decide +kernel
theorem dD_write_34 : decode cD_write 34 = .ok (.dup, 1) := by decide +kernel
theorem dD_write_35 : decode cD_write 35 = .ok (.getfield 71, 3) := by decide +kernel
theorem dD_write_38 : decode cD_write 38 = .ok (.iconst 1, 1) := by decide +kernel
theorem dD_write_39 : decode cD_write 39 = .ok (.iadd, 1) := by decide +kernel
theorem dD_write_40 : decode cD_write 40 = .ok (.putfield 71, 3) := by decide +kernel
theorem dD_write_43 : decode cD_write 43 = .ok (.return_, 1) := by decide +kernel
theorem dD_writtenAt_0 : decode cD_writtenAt 0 = .ok (.iload_n 1, 1) := by decide +kernel
theorem dD_writtenAt_1 : decode cD_writtenAt 1 = .ok (.ifCond .lt 11, 3) := by decide +kernel
theorem dD_writtenAt_4 : decode cD_writtenAt 4 = .ok (.iload_n 1, 1) := by decide +kernel
theorem dD_writtenAt_5 : decode cD_writtenAt 5 = .ok (.aload_n 0, 1) := by decide +kernel
theorem dD_writtenAt_6 : decode cD_writtenAt 6 = .ok (.getfield 71, 3) := by decide +kernel
theorem dD_writtenAt_9 : decode cD_writtenAt 9 = .ok (.if_icmp .lt 5, 3) := by decide +kernel
theorem dD_writtenAt_12 : decode cD_writtenAt 12 = .ok (.aconst_null, 1) := by decide +kernel
theorem dD_writtenAt_13 : decode cD_writtenAt 13 = .ok (.areturn, 1) := by decide +kernel
theorem dD_writtenAt_14 : decode cD_writtenAt 14 = .ok (.aload_n 0, 1) := by decide +kernel
theorem dD_writtenAt_15 : decode cD_writtenAt 15 = .ok (.getfield 68, 3) := by decide +kernel
theorem dD_writtenAt_18 : decode cD_writtenAt 18 = .ok (.astore_n 2, 1) := by decide +kernel
theorem dD_writtenAt_19 : decode cD_writtenAt 19 = .ok (.iconst 0, 1) := by decide +kernel
theorem dD_writtenAt_20 : decode cD_writtenAt 20 = .ok (.istore_n 3, 1) := by decide +kernel
theorem dD_writtenAt_21 : decode cD_writtenAt 21 = .ok (.iload_n 3, 1) := by decide +kernel
theorem dD_writtenAt_22 : decode cD_writtenAt 22 = .ok (.iload_n 1, 1) := by decide +kernel
theorem dD_writtenAt_23 : decode cD_writtenAt 23 = .ok (.if_icmp .ge 18, 3) := by decide +kernel
theorem dD_writtenAt_26 : decode cD_writtenAt 26 = .ok (.aload_n 2, 1) := by decide +kernel
theorem dD_writtenAt_27 : decode cD_writtenAt 27 = .ok (.ifnull 14, 3) := by decide +kernel
theorem dD_writtenAt_30 : decode cD_writtenAt 30 = .ok (.aload_n 2, 1) := by decide +kernel
theorem dD_writtenAt_31 : decode cD_writtenAt 31 = .ok (.getfield 59, 3) := by decide +kernel
theorem dD_writtenAt_34 : decode cD_writtenAt 34 = .ok (.astore_n 2, 1) := by decide +kernel
theorem dD_writtenAt_35 : decode cD_writtenAt 35 = .ok (.iinc 3 1, 3) := by decide +kernel
theorem dD_writtenAt_38 : decode cD_writtenAt 38 = .ok (.goto (-17), 3) := by decide +kernel
theorem dD_writtenAt_41 : decode cD_writtenAt 41 = .ok (.aload_n 2, 1) := by decide +kernel
theorem dD_writtenAt_42 : decode cD_writtenAt 42 = .ok (.areturn, 1) := by decide +kernel
theorem dE_init_0 : decode cE_init 0 = .ok (.aload_n 0, 1) := by decide +kernel
theorem dE_init_1 : decode cE_init 1 = .ok (.invokespecial 3, 3) := by decide +kernel
theorem dE_init_4 : decode cE_init 4 = .ok (.aload_n 0, 1) := by decide +kernel
theorem dE_init_5 : decode cE_init 5 = .ok (.aload_n 1, 1) := by decide +kernel
theorem dE_init_6 : decode cE_init 6 = .ok (.putfield 9, 3) := by decide +kernel
theorem dE_init_9 : decode cE_init 9 = .ok (.aload_n 0, 1) := by decide +kernel
theorem dE_init_10 : decode cE_init 10 = .ok (.iload_n 2, 1) := by decide +kernel
theorem dE_init_11 : decode cE_init 11 = .ok (.putfield 15, 3) := by decide +kernel
theorem dE_init_14 : decode cE_init 14 = .ok (.aload_n 0, 1) := by decide +kernel
theorem dE_init_15 : decode cE_init 15 = .ok (.iload_n 3, 1) := by decide +kernel
theorem dE_init_16 : decode cE_init 16 = .ok (.putfield 19, 3) := by decide +kernel
theorem dE_init_19 : decode cE_init 19 = .ok (.aload_n 0, 1) := by decide +kernel
theorem dE_init_20 : decode cE_init 20 = .ok (.iload 4, 2) := by decide +kernel
theorem dE_init_22 : decode cE_init 22 = .ok (.putfield 22, 3) := by decide +kernel
theorem dE_init_25 : decode cE_init 25 = .ok (.aload_n 0, 1) := by decide +kernel
theorem dE_init_26 : decode cE_init 26 = .ok (.iconst (-1), 1) := by decide +kernel
theorem dE_init_27 : decode cE_init 27 = .ok (.putfield 25, 3) := by decide +kernel
theorem dE_init_30 : decode cE_init 30 = .ok (.return_, 1) := by decide +kernel
theorem dE_isWaiting_0 : decode cE_isWaiting 0 = .ok (.aload_n 0, 1) := by decide +kernel
theorem dE_isWaiting_1 : decode cE_isWaiting 1 = .ok (.getfield 25, 3) := by decide +kernel
theorem dE_isWaiting_4 : decode cE_isWaiting 4 = .ok (.iconst (-1), 1) := by decide +kernel
theorem dE_isWaiting_5 : decode cE_isWaiting 5 = .ok (.if_icmp .ne 7, 3) := by decide +kernel
theorem dE_isWaiting_8 : decode cE_isWaiting 8 = .ok (.iconst 1, 1) := by decide +kernel
theorem dE_isWaiting_9 : decode cE_isWaiting 9 = .ok (.goto 4, 3) := by decide +kernel
theorem dE_isWaiting_12 : decode cE_isWaiting 12 = .ok (.iconst 0, 1) := by decide +kernel
theorem dE_isWaiting_13 : decode cE_isWaiting 13 = .ok (.ireturn, 1) := by decide +kernel
theorem dE_goesAheadOf_0 : decode cE_goesAheadOf 0 = .ok (.aload_n 0, 1) := by decide +kernel
theorem dE_goesAheadOf_1 : decode cE_goesAheadOf 1 = .ok (.getfield 22, 3) := by decide +kernel
theorem dE_goesAheadOf_4 : decode cE_goesAheadOf 4 = .ok (.aload_n 1, 1) := by decide +kernel
theorem dE_goesAheadOf_5 : decode cE_goesAheadOf 5 = .ok (.getfield 22, 3) := by decide +kernel
theorem dE_goesAheadOf_8 : decode cE_goesAheadOf 8 = .ok (.if_icmp .lt 25, 3) := by decide +kernel
theorem dE_goesAheadOf_11 : decode cE_goesAheadOf 11 = .ok (.aload_n 0, 1) := by decide +kernel
theorem dE_goesAheadOf_12 : decode cE_goesAheadOf 12 = .ok (.getfield 22, 3) := by decide +kernel
theorem dE_goesAheadOf_15 : decode cE_goesAheadOf 15 = .ok (.aload_n 1, 1) := by decide +kernel
theorem dE_goesAheadOf_16 : decode cE_goesAheadOf 16 = .ok (.getfield 22, 3) := by decide +kernel
theorem dE_goesAheadOf_19 : decode cE_goesAheadOf 19 = .ok (.if_icmp .ne 18, 3) := by decide +kernel
theorem dE_goesAheadOf_22 : decode cE_goesAheadOf 22 = .ok (.aload_n 0, 1) := by decide +kernel
theorem dE_goesAheadOf_23 : decode cE_goesAheadOf 23 = .ok (.getfield 15, 3) := by decide +kernel
theorem dE_goesAheadOf_26 : decode cE_goesAheadOf 26 = .ok (.aload_n 1, 1) := by decide +kernel
theorem dE_goesAheadOf_27 : decode cE_goesAheadOf 27 = .ok (.getfield 15, 3) := by decide +kernel
theorem dE_goesAheadOf_30 : decode cE_goesAheadOf 30 = .ok (.if_icmp .ge 7, 3) := by decide +kernel
theorem dE_goesAheadOf_33 : decode cE_goesAheadOf 33 = .ok (.iconst 1, 1) := by decide +kernel
theorem dE_goesAheadOf_34 : decode cE_goesAheadOf 34 = .ok (.goto 4, 3) := by decide +kernel
theorem dE_goesAheadOf_37 : decode cE_goesAheadOf 37 = .ok (.iconst 0, 1) := by decide +kernel
theorem dE_goesAheadOf_38 : decode cE_goesAheadOf 38 = .ok (.ireturn, 1) := by decide +kernel
