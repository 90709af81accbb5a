theorem dL_person_0 : decode cL_person 0 = .ok (.aload_n 2, 1) := by decide +kernel
theorem dL_person_1 : decode cL_person 1 = .ok (.iconst 0, 1) := by decide +kernel
theorem dL_person_2 : decode cL_person 2 = .ok (.aload_n 0, 1) := by decide +kernel
theorem dL_person_3 : decode cL_person 3 = .ok (.iload_n 1, 1) := by decide +kernel
theorem dL_person_4 : decode cL_person 4 = .ok (.invokevirtual 7, 3) := by decide +kernel
theorem dL_person_7 : decode cL_person 7 = .ok (.i2l, 1) := by decide +kernel
theorem dL_person_8 : decode cL_person 8 = .ok (.lastore, 1) := by decide +kernel
theorem dL_person_9 : decode cL_person 9 = .ok (.goto 9, 3) := by decide +kernel
theorem dL_person_12 : decode cL_person 12 = .ok (.astore_n 3, 1) := by decide +kernel
theorem dL_person_13 : decode cL_person 13 = .ok (.iconst 1, 1) := by decide +kernel
theorem dL_person_14 : decode cL_person 14 = .ok (.ireturn, 1) := by decide +kernel
theorem dL_person_15 : decode cL_person 15 = .ok (.astore_n 3, 1) := by decide +kernel
theorem dL_person_16 : decode cL_person 16 = .ok (.iconst 2, 1) := by decide +kernel
theorem dL_person_17 : decode cL_person 17 = .ok (.ireturn, 1) := by decide +kernel
theorem dL_person_18 : decode cL_person 18 = .ok (.iconst 0, 1) := by decide +kernel
theorem dL_person_19 : decode cL_person 19 = .ok (.ireturn, 1) := by decide +kernel
theorem dL_declaration_0 : decode cL_declaration 0 = .ok (.aload_n 3, 1) := by decide +kernel
theorem dL_declaration_1 : decode cL_declaration 1 = .ok (.iconst 0, 1) := by decide +kernel
theorem dL_declaration_2 : decode cL_declaration 2 = .ok (.aload_n 0, 1) := by decide +kernel
theorem dL_declaration_3 : decode cL_declaration 3 = .ok (.iload_n 1, 1) := by decide +kernel
theorem dL_declaration_4 : decode cL_declaration 4 = .ok (.iload_n 2, 1) := by decide +kernel
theorem dL_declaration_5 : decode cL_declaration 5 = .ok (.invokevirtual 17, 3) := by decide +kernel
theorem dL_declaration_8 : decode cL_declaration 8 = .ok (.i2l, 1) := by decide +kernel
theorem dL_declaration_9 : decode cL_declaration 9 = .ok (.lastore, 1) := by decide +kernel
theorem dL_declaration_10 : decode cL_declaration 10 = .ok (.goto 11, 3) := by decide +kernel
theorem dL_declaration_13 : decode cL_declaration 13 = .ok (.astore 4, 2) := by decide +kernel
theorem dL_declaration_15 : decode cL_declaration 15 = .ok (.iconst 1, 1) := by decide +kernel
theorem dL_declaration_16 : decode cL_declaration 16 = .ok (.ireturn, 1) := by decide +kernel
theorem dL_declaration_17 : decode cL_declaration 17 = .ok (.astore 4, 2) := by decide +kernel
theorem dL_declaration_19 : decode cL_declaration 19 = .ok (.iconst 2, 1) := by decide +kernel
theorem dL_declaration_20 : decode cL_declaration 20 = .ok (.ireturn, 1) := by decide +kernel
theorem dL_declaration_21 : decode cL_declaration 21 = .ok (.iconst 0, 1) := by decide +kernel
theorem dL_declaration_22 : decode cL_declaration 22 = .ok (.ireturn, 1) := by decide +kernel
theorem dL_event_0 : decode cL_event 0 = .ok (.aload 5, 2) := by decide +kernel
theorem dL_event_2 : decode cL_event 2 = .ok (.iconst 0, 1) := by decide +kernel
theorem dL_event_3 : decode cL_event 3 = .ok (.aload_n 0, 1) := by decide +kernel
theorem dL_event_4 : decode cL_event 4 = .ok (.iload_n 1, 1) := by decide +kernel
theorem dL_event_5 : decode cL_event 5 = .ok (.iload_n 2, 1) := by decide +kernel
theorem dL_event_6 : decode cL_event 6 = .ok (.iload_n 3, 1) := by decide +kernel
theorem dL_event_7 : decode cL_event 7 = .ok (.iload 4, 2) := by decide +kernel
theorem dL_event_9 : decode cL_event 9 = .ok (.invokevirtual 21, 3) := by decide +kernel
theorem dL_event_12 : decode cL_event 12 = .ok (.i2l, 1) := by decide +kernel
theorem dL_event_13 : decode cL_event 13 = .ok (.lastore, 1) := by decide +kernel
theorem dL_event_14 : decode cL_event 14 = .ok (.goto 11, 3) := by decide +kernel
theorem dL_event_17 : decode cL_event 17 = .ok (.astore 6, 2) := by decide +kernel
theorem dL_event_19 : decode cL_event 19 = .ok (.iconst 1, 1) := by decide +kernel
theorem dL_event_20 : decode cL_event 20 = .ok (.ireturn, 1) := by decide +kernel
theorem dL_event_21 : decode cL_event 21 = .ok (.astore 6, 2) := by decide +kernel
theorem dL_event_23 : decode cL_event 23 = .ok (.iconst 2, 1) := by decide +kernel
theorem dL_event_24 : decode cL_event 24 = .ok (.ireturn, 1) := by decide +kernel
theorem dL_event_25 : decode cL_event 25 = .ok (.iconst 0, 1) := by decide +kernel
theorem dL_event_26 : decode cL_event 26 = .ok (.ireturn, 1) := by decide +kernel
theorem dL_tick_0 : decode cL_tick 0 = .ok (.aload_n 2, 1) := by decide +kernel
theorem dL_tick_1 : decode cL_tick 1 = .ok (.iconst 0, 1) := by decide +kernel
theorem dL_tick_2 : decode cL_tick 2 = .ok (.aload_n 0, 1) := by decide +kernel
theorem dL_tick_3 : decode cL_tick 3 = .ok (.iload_n 1, 1) := by decide +kernel
theorem dL_tick_4 : decode cL_tick 4 = .ok (.invokevirtual 25, 3) := by decide +kernel
theorem dL_tick_7 : decode cL_tick 7 = .ok (.i2l, 1) := by decide +kernel
theorem dL_tick_8 : decode cL_tick 8 = .ok (.lastore, 1) := by decide +kernel
theorem dL_tick_9 : decode cL_tick 9 = .ok (.goto 6, 3) := by decide +kernel
theorem dL_tick_12 : decode cL_tick 12 = .ok (.astore_n 3, 1) := by decide +kernel
theorem dL_tick_13 : decode cL_tick 13 = .ok (.iconst 1, 1) := by decide +kernel
theorem dL_tick_14 : decode cL_tick 14 = .ok (.ireturn, 1) := by decide +kernel
theorem dL_tick_15 : decode cL_tick 15 = .ok (.iconst 0, 1) := by decide +kernel
theorem dL_tick_16 : decode cL_tick 16 = .ok (.ireturn, 1) := by decide +kernel
theorem dL_bar_0 : decode cL_bar 0 = .ok (.aload 4, 2) := by decide +kernel
theorem dL_bar_2 : decode cL_bar 2 = .ok (.iconst 0, 1) := by decide +kernel
theorem dL_bar_3 : decode cL_bar 3 = .ok (.aload_n 0, 1) := by decide +kernel
theorem dL_bar_4 : decode cL_bar 4 = .ok (.iload_n 1, 1) := by decide +kernel
theorem dL_bar_5 : decode cL_bar 5 = .ok (.iload_n 2, 1) := by decide +kernel
theorem dL_bar_6 : decode cL_bar 6 = .ok (.iload_n 3, 1) := by decide +kernel
theorem dL_bar_7 : decode cL_bar 7 = .ok (.invokevirtual 28, 3) := by decide +kernel
theorem dL_bar_10 : decode cL_bar 10 = .ok (.i2l, 1) := by decide +kernel
theorem dL_bar_11 : decode cL_bar 11 = .ok (.lastore, 1) := by decide +kernel
theorem dL_bar_12 : decode cL_bar 12 = .ok (.goto 7, 3) := by decide +kernel
theorem dL_bar_15 : decode cL_bar 15 = .ok (.astore 5, 2) := by decide +kernel
theorem dL_bar_17 : decode cL_bar 17 = .ok (.iconst 1, 1) := by decide +kernel
theorem dL_bar_18 : decode cL_bar 18 = .ok (.ireturn, 1) := by decide +kernel
theorem dL_bar_19 : decode cL_bar 19 = .ok (.iconst 0, 1) := by decide +kernel
theorem dL_bar_20 : decode cL_bar 20 = .ok (.ireturn, 1) := by decide +kernel
theorem dL_invalidate_0 : decode cL_invalidate 0 = .ok (.aload 4, 2) := by decide +kernel
theorem dL_invalidate_2 : decode cL_invalidate 2 = .ok (.iconst 0, 1) := by decide +kernel
theorem dL_invalidate_3 : decode cL_invalidate 3 = .ok (.aload_n 0, 1) := by decide +kernel
theorem dL_invalidate_4 : decode cL_invalidate 4 = .ok (.iload_n 1, 1) := by decide +kernel
theorem dL_invalidate_5 : decode cL_invalidate 5 = .ok (.iload_n 2, 1) := by decide +kernel
theorem dL_invalidate_6 : decode cL_invalidate 6 = .ok (.iload_n 3, 1) := by decide +kernel
theorem dL_invalidate_7 : decode cL_invalidate 7 = .ok (.invokevirtual 32, 3) := by decide +kernel
theorem dL_invalidate_10 : decode cL_invalidate 10 = .ok (.i2l, 1) := by decide +kernel
theorem dL_invalidate_11 : decode cL_invalidate 11 = .ok (.lastore, 1) := by decide +kernel
theorem dL_invalidate_12 : decode cL_invalidate 12 = .ok (.goto 7, 3) := by decide +kernel
theorem dL_invalidate_15 : decode cL_invalidate 15 = .ok (.astore 5, 2) := by decide +kernel
theorem dL_invalidate_17 : decode cL_invalidate 17 = .ok (.iconst 1, 1) := by decide +kernel
theorem dL_invalidate_18 : decode cL_invalidate 18 = .ok (.ireturn, 1) := by decide +kernel
theorem dL_invalidate_19 : decode cL_invalidate 19 = .ok (.iconst 0, 1) := by decide +kernel
theorem dL_invalidate_20 : decode cL_invalidate 20 = .ok (.ireturn, 1) := by decide +kernel
theorem dL_look_0 : decode cL_look 0 = .ok (.aload_n 3, 1) := by decide +kernel
theorem dL_look_1 : decode cL_look 1 = .ok (.iconst 0, 1) := by decide +kernel
theorem dL_look_2 : decode cL_look 2 = .ok (.aload_n 0, 1) := by decide +kernel
theorem dL_look_3 : decode cL_look 3 = .ok (.iload_n 1, 1) := by decide +kernel
theorem dL_look_4 : decode cL_look 4 = .ok (.iload_n 2, 1) := by decide +kernel
theorem dL_look_5 : decode cL_look 5 = .ok (.invokevirtual 36, 3) := by decide +kernel
theorem dL_look_8 : decode cL_look 8 = .ok (.i2l, 1) := by decide +kernel
theorem dL_look_9 : decode cL_look 9 = .ok (.lastore, 1) := by decide +kernel
theorem dL_look_10 : decode cL_look 10 = .ok (.goto 7, 3) := by decide +kernel
theorem dL_look_13 : decode cL_look 13 = .ok (.astore 4, 2) := by decide +kernel
theorem dL_look_15 : decode cL_look 15 = .ok (.iconst 1, 1) := by decide +kernel
theorem dL_look_16 : decode cL_look 16 = .ok (.ireturn, 1) := by decide +kernel
theorem dL_look_17 : decode cL_look 17 = .ok (.iconst 0, 1) := by decide +kernel
theorem dL_look_18 : decode cL_look 18 = .ok (.ireturn, 1) := by decide +kernel
theorem dL_written_0 : decode cL_written 0 = .ok (.aload_n 3, 1) := by decide +kernel
theorem dL_written_1 : decode cL_written 1 = .ok (.iconst 0, 1) := by decide +kernel
theorem dL_written_2 : decode cL_written 2 = .ok (.aload_n 0, 1) := by decide +kernel
theorem dL_written_3 : decode cL_written 3 = .ok (.iload_n 1, 1) := by decide +kernel
theorem dL_written_4 : decode cL_written 4 = .ok (.iload_n 2, 1) := by decide +kernel
theorem dL_written_5 : decode cL_written 5 = .ok (.invokevirtual 41, 3) := by decide +kernel
theorem dL_written_8 : decode cL_written 8 = .ok (.i2l, 1) := by decide +kernel
theorem dL_written_9 : decode cL_written 9 = .ok (.lastore, 1) := by decide +kernel
theorem dL_written_10 : decode cL_written 10 = .ok (.goto 7, 3) := by decide +kernel
theorem dL_written_13 : decode cL_written 13 = .ok (.astore 4, 2) := by decide +kernel
theorem dL_written_15 : decode cL_written 15 = .ok (.iconst 1, 1) := by decide +kernel
theorem dL_written_16 : decode cL_written 16 = .ok (.ireturn, 1) := by decide +kernel
theorem dL_written_17 : decode cL_written 17 = .ok (.iconst 0, 1) := by decide +kernel
theorem dL_written_18 : decode cL_written 18 = .ok (.ireturn, 1) := by decide +kernel
theorem dL_of_0 : decode cL_of 0 = .ok (.aload_n 3, 1) := by decide +kernel
theorem dL_of_1 : decode cL_of 1 = .ok (.iconst 0, 1) := by decide +kernel
theorem dL_of_2 : decode cL_of 2 = .ok (.aload_n 0, 1) := by decide +kernel
theorem dL_of_3 : decode cL_of 3 = .ok (.iload_n 1, 1) := by decide +kernel
theorem dL_of_4 : decode cL_of 4 = .ok (.iload_n 2, 1) := by decide +kernel
theorem dL_of_5 : decode cL_of 5 = .ok (.invokevirtual 44, 3) := by decide +kernel
theorem dL_of_8 : decode cL_of 8 = .ok (.i2l, 1) := by decide +kernel
theorem dL_of_9 : decode cL_of 9 = .ok (.lastore, 1) := by decide +kernel
theorem dL_of_10 : decode cL_of 10 = .ok (.goto 7, 3) := by decide +kernel
theorem dL_of_13 : decode cL_of 13 = .ok (.astore 4, 2) := by decide +kernel
theorem dL_of_15 : decode cL_of 15 = .ok (.iconst 1, 1) := by decide +kernel
theorem dL_of_16 : decode cL_of 16 = .ok (.ireturn, 1) := by decide +kernel
theorem dL_of_17 : decode cL_of 17 = .ok (.iconst 0, 1) := by decide +kernel
theorem dL_of_18 : decode cL_of 18 = .ok (.ireturn, 1) := by decide +kernel
theorem dL_law_0 : decode code 0 = .ok (.new 8, 3) := by decide +kernel
theorem dL_law_3 : decode code 3 = .ok (.dup, 1) := by decide +kernel
theorem dL_law_4 : decode code 4 = .ok (.invokespecial 47, 3) := by decide +kernel
theorem dL_law_7 : decode code 7 = .ok (.astore_n 1, 1) := by decide +kernel
theorem dL_law_8 : decode code 8 = .ok (.new 48, 3) := by decide +kernel
theorem dL_law_11 : decode code 11 = .ok (.dup, 1) := by decide +kernel
theorem dL_law_12 : decode code 12 = .ok (.invokespecial 50, 3) := by decide +kernel
theorem dL_law_15 : decode code 15 = .ok (.astore_n 2, 1) := by decide +kernel
theorem dL_law_16 : decode code 16 = .ok (.iconst 1, 1) := by decide +kernel
theorem dL_law_17 : decode code 17 = .ok (.newarray .long, 2) := by decide +kernel
theorem dL_law_19 : decode code 19 = .ok (.astore_n 3, 1) := by decide +kernel
theorem dL_law_20 : decode code 20 = .ok (.iconst 0, 1) := by decide +kernel
theorem dL_law_21 : decode code 21 = .ok (.istore 4, 2) := by decide +kernel
theorem dL_law_23 : decode code 23 = .ok (.iload 4, 2) := by decide +kernel
theorem dL_law_25 : decode code 25 = .ok (.aload_n 0, 1) := by decide +kernel
theorem dL_law_26 : decode code 26 = .ok (.arraylength, 1) := by decide +kernel
theorem dL_law_27 : decode code 27 = .ok (.iconst 5, 1) := by decide +kernel
theorem dL_law_28 : decode code 28 = .ok (.isub, 1) := by decide +kernel
theorem dL_law_29 : decode code 29 = .ok (.if_icmp .gt 844, 3) := by decide +kernel
theorem dL_law_32 : decode code 32 = .ok (.aload_n 0, 1) := by decide +kernel
theorem dL_law_33 : decode code 33 = .ok (.iload 4, 2) := by decide +kernel
theorem dL_law_35 : decode code 35 = .ok (.iaload, 1) := by decide +kernel
theorem dL_law_36 : decode code 36 = .ok (.bipush 15, 2) := by decide +kernel
theorem dL_law_38 : decode code 38 = .ok (.iand, 1) := by decide +kernel
theorem dL_law_39 : decode code 39 = .ok (.tableswitch 828 0 11 #[61, 117, 185, 277, 333, 370, 423, 519, 599, 667, 735, 803], 61) := by decide +kernel
theorem dL_law_100 : decode code 100 = .ok (.aload_n 1, 1) := by decide +kernel
theorem dL_law_101 : decode code 101 = .ok (.aload_n 0, 1) := by decide +kernel
theorem dL_law_102 : decode code 102 = .ok (.iload 4, 2) := by decide +kernel
theorem dL_law_104 : decode code 104 = .ok (.iconst 1, 1) := by decide +kernel
theorem dL_law_105 : decode code 105 = .ok (.iadd, 1) := by decide +kernel
theorem dL_law_106 : decode code 106 = .ok (.iaload, 1) := by decide +kernel
theorem dL_law_107 : decode code 107 = .ok (.aload_n 3, 1) := by decide +kernel
theorem dL_law_108 : decode code 108 = .ok (.invokestatic 51, 3) := by decide +kernel
theorem dL_law_111 : decode code 111 = .ok (.istore 5, 2) := by decide +kernel
theorem dL_law_113 : decode code 113 = .ok (.aload_n 2, 1) := by decide +kernel
theorem dL_law_114 : decode code 114 = .ok (.aload_n 0, 1) := by decide +kernel
theorem dL_law_115 : decode code 115 = .ok (.iload 4, 2) := by decide +kernel
theorem dL_law_117 : decode code 117 = .ok (.iconst 1, 1) := by decide +kernel
theorem dL_law_118 : decode code 118 = .ok (.iadd, 1) := by decide +kernel
theorem dL_law_119 : decode code 119 = .ok (.iaload, 1) := by decide +kernel
theorem dL_law_120 : decode code 120 = .ok (.invokevirtual 56, 3) := by decide +kernel
theorem dL_law_123 : decode code 123 = .ok (.istore 6, 2) := by decide +kernel
theorem dL_law_125 : decode code 125 = .ok (.aload_n 2, 1) := by decide +kernel
theorem dL_law_126 : decode code 126 = .ok (.invokevirtual 57, 3) := by decide +kernel
theorem dL_law_129 : decode code 129 = .ok (.iload 5, 2) := by decide +kernel
theorem dL_law_131 : decode code 131 = .ok (.if_icmp .eq 5, 3) := by decide +kernel
theorem dL_law_134 : decode code 134 = .ok (.iconst 0, 1) := by decide +kernel
theorem dL_law_135 : decode code 135 = .ok (.ireturn, 1) := by decide +kernel
theorem dL_law_136 : decode code 136 = .ok (.iload 5, 2) := by decide +kernel
theorem dL_law_138 : decode code 138 = .ok (.ifCond .ne 15, 3) := by decide +kernel
theorem dL_law_141 : decode code 141 = .ok (.aload_n 3, 1) := by decide +kernel
theorem dL_law_142 : decode code 142 = .ok (.iconst 0, 1) := by decide +kernel
theorem dL_law_143 : decode code 143 = .ok (.laload, 1) := by decide +kernel
theorem dL_law_144 : decode code 144 = .ok (.iload 6, 2) := by decide +kernel
theorem dL_law_146 : decode code 146 = .ok (.i2l, 1) := by decide +kernel
theorem dL_law_147 : decode code 147 = .ok (.lcmp, 1) := by decide +kernel
theorem dL_law_148 : decode code 148 = .ok (.ifCond .eq 5, 3) := by decide +kernel
theorem dL_law_151 : decode code 151 = .ok (.iconst 0, 1) := by decide +kernel
theorem dL_law_152 : decode code 152 = .ok (.ireturn, 1) := by decide +kernel
theorem dL_law_153 : decode code 153 = .ok (.goto 714, 3) := by decide +kernel
theorem dL_law_156 : decode code 156 = .ok (.aload_n 1, 1) := by decide +kernel
theorem dL_law_157 : decode code 157 = .ok (.aload_n 0, 1) := by decide +kernel
theorem dL_law_158 : decode code 158 = .ok (.iload 4, 2) := by decide +kernel
theorem dL_law_160 : decode code 160 = .ok (.iconst 1, 1) := by decide +kernel
theorem dL_law_161 : decode code 161 = .ok (.iadd, 1) := by decide +kernel
theorem dL_law_162 : decode code 162 = .ok (.iaload, 1) := by decide +kernel
theorem dL_law_163 : decode code 163 = .ok (.aload_n 0, 1) := by decide +kernel
theorem dL_law_164 : decode code 164 = .ok (.iload 4, 2) := by decide +kernel
theorem dL_law_166 : decode code 166 = .ok (.iconst 2, 1) := by decide +kernel
theorem dL_law_167 : decode code 167 = .ok (.iadd, 1) := by decide +kernel
theorem dL_law_168 : decode code 168 = .ok (.iaload, 1) := by decide +kernel
theorem dL_law_169 : decode code 169 = .ok (.aload_n 3, 1) := by decide +kernel
theorem dL_law_170 : decode code 170 = .ok (.invokestatic 61, 3) := by decide +kernel
theorem dL_law_173 : decode code 173 = .ok (.istore 5, 2) := by decide +kernel
theorem dL_law_175 : decode code 175 = .ok (.aload_n 2, 1) := by decide +kernel
theorem dL_law_176 : decode code 176 = .ok (.aload_n 0, 1) := by decide +kernel
theorem dL_law_177 : decode code 177 = .ok (.iload 4, 2) := by decide +kernel
theorem dL_law_179 : decode code 179 = .ok (.iconst 1, 1) := by decide +kernel
theorem dL_law_180 : decode code 180 = .ok (.iadd, 1) := by decide +kernel
theorem dL_law_181 : decode code 181 = .ok (.iaload, 1) := by decide +kernel
theorem dL_law_182 : decode code 182 = .ok (.aload_n 0, 1) := by decide +kernel
theorem dL_law_183 : decode code 183 = .ok (.iload 4, 2) := by decide +kernel
theorem dL_law_185 : decode code 185 = .ok (.iconst 2, 1) := by decide +kernel
theorem dL_law_186 : decode code 186 = .ok (.iadd, 1) := by decide +kernel
theorem dL_law_187 : decode code 187 = .ok (.iaload, 1) := by decide +kernel
theorem dL_law_188 : decode code 188 = .ok (.invokevirtual 64, 3) := by decide +kernel
theorem dL_law_191 : decode code 191 = .ok (.istore 6, 2) := by decide +kernel
theorem dL_law_193 : decode code 193 = .ok (.aload_n 2, 1) := by decide +kernel
theorem dL_law_194 : decode code 194 = .ok (.invokevirtual 57, 3) := by decide +kernel
theorem dL_law_197 : decode code 197 = .ok (.iload 5, 2) := by decide +kernel
theorem dL_law_199 : decode code 199 = .ok (.if_icmp .eq 5, 3) := by decide +kernel
theorem dL_law_202 : decode code 202 = .ok (.iconst 0, 1) := by decide +kernel
theorem dL_law_203 : decode code 203 = .ok (.ireturn, 1) := by decide +kernel
theorem dL_law_204 : decode code 204 = .ok (.iload 5, 2) := by decide +kernel
theorem dL_law_206 : decode code 206 = .ok (.ifCond .ne 15, 3) := by decide +kernel
theorem dL_law_209 : decode code 209 = .ok (.aload_n 3, 1) := by decide +kernel
theorem dL_law_210 : decode code 210 = .ok (.iconst 0, 1) := by decide +kernel
theorem dL_law_211 : decode code 211 = .ok (.laload, 1) := by decide +kernel
theorem dL_law_212 : decode code 212 = .ok (.iload 6, 2) := by decide +kernel
theorem dL_law_214 : decode code 214 = .ok (.i2l, 1) := by decide +kernel
theorem dL_law_215 : decode code 215 = .ok (.lcmp, 1) := by decide +kernel
theorem dL_law_216 : decode code 216 = .ok (.ifCond .eq 5, 3) := by decide +kernel
theorem dL_law_219 : decode code 219 = .ok (.iconst 0, 1) := by decide +kernel
theorem dL_law_220 : decode code 220 = .ok (.ireturn, 1) := by decide +kernel
theorem dL_law_221 : decode code 221 = .ok (.goto 646, 3) := by decide +kernel
theorem dL_law_224 : decode code 224 = .ok (.aload_n 1, 1) := by decide +kernel
theorem dL_law_225 : decode code 225 = .ok (.aload_n 0, 1) := by decide +kernel
theorem dL_law_226 : decode code 226 = .ok (.iload 4, 2) := by decide +kernel
theorem dL_law_228 : decode code 228 = .ok (.iconst 1, 1) := by decide +kernel
theorem dL_law_229 : decode code 229 = .ok (.iadd, 1) := by decide +kernel
theorem dL_law_230 : decode code 230 = .ok (.iaload, 1) := by decide +kernel
theorem dL_law_231 : decode code 231 = .ok (.aload_n 0, 1) := by decide +kernel
theorem dL_law_232 : decode code 232 = .ok (.iload 4, 2) := by decide +kernel
theorem dL_law_234 : decode code 234 = .ok (.iconst 2, 1) := by decide +kernel
theorem dL_law_235 : decode code 235 = .ok (.iadd, 1) := by decide +kernel
theorem dL_law_236 : decode code 236 = .ok (.iaload, 1) := by decide +kernel
theorem dL_law_237 : decode code 237 = .ok (.aload_n 0, 1) := by decide +kernel
theorem dL_law_238 : decode code 238 = .ok (.iload 4, 2) := by decide +kernel
theorem dL_law_240 : decode code 240 = .ok (.iconst 3, 1) := by decide +kernel
theorem dL_law_241 : decode code 241 = .ok (.iadd, 1) := by decide +kernel
theorem dL_law_242 : decode code 242 = .ok (.iaload, 1) := by decide +kernel
theorem dL_law_243 : decode code 243 = .ok (.aload_n 0, 1) := by decide +kernel
theorem dL_law_244 : decode code 244 = .ok (.iload 4, 2) := by decide +kernel
theorem dL_law_246 : decode code 246 = .ok (.iconst 4, 1) := by decide +kernel
theorem dL_law_247 : decode code 247 = .ok (.iadd, 1) := by decide +kernel
theorem dL_law_248 : decode code 248 = .ok (.iaload, 1) := by decide +kernel
theorem dL_law_249 : decode code 249 = .ok (.aload_n 3, 1) := by decide +kernel
theorem dL_law_250 : decode code 250 = .ok (.invokestatic 65, 3) := by decide +kernel
theorem dL_law_253 : decode code 253 = .ok (.istore 5, 2) := by decide +kernel
theorem dL_law_255 : decode code 255 = .ok (.aload_n 2, 1) := by decide +kernel
theorem dL_law_256 : decode code 256 = .ok (.aload_n 0, 1) := by decide +kernel
theorem dL_law_257 : decode code 257 = .ok (.iload 4, 2) := by decide +kernel
theorem dL_law_259 : decode code 259 = .ok (.iconst 1, 1) := by decide +kernel
theorem dL_law_260 : decode code 260 = .ok (.iadd, 1) := by decide +kernel
theorem dL_law_261 : decode code 261 = .ok (.iaload, 1) := by decide +kernel
theorem dL_law_262 : decode code 262 = .ok (.aload_n 0, 1) := by decide +kernel
theorem dL_law_263 : decode code 263 = .ok (.iload 4, 2) := by decide +kernel
theorem dL_law_265 : decode code 265 = .ok (.iconst 2, 1) := by decide +kernel
theorem dL_law_266 : decode code 266 = .ok (.iadd, 1) := by decide +kernel
theorem dL_law_267 : decode code 267 = .ok (.iaload, 1) := by decide +kernel
theorem dL_law_268 : decode code 268 = .ok (.aload_n 0, 1) := by decide +kernel
theorem dL_law_269 : decode code 269 = .ok (.iload 4, 2) := by decide +kernel
theorem dL_law_271 : decode code 271 = .ok (.iconst 3, 1) := by decide +kernel
theorem dL_law_272 : decode code 272 = .ok (.iadd, 1) := by decide +kernel
theorem dL_law_273 : decode code 273 = .ok (.iaload, 1) := by decide +kernel
theorem dL_law_274 : decode code 274 = .ok (.aload_n 0, 1) := by decide +kernel
theorem dL_law_275 : decode code 275 = .ok (.iload 4, 2) := by decide +kernel
theorem dL_law_277 : decode code 277 = .ok (.iconst 4, 1) := by decide +kernel
theorem dL_law_278 : decode code 278 = .ok (.iadd, 1) := by decide +kernel
theorem dL_law_279 : decode code 279 = .ok (.iaload, 1) := by decide +kernel
theorem dL_law_280 : decode code 280 = .ok (.invokevirtual 68, 3) := by decide +kernel
theorem dL_law_283 : decode code 283 = .ok (.istore 6, 2) := by decide +kernel
theorem dL_law_285 : decode code 285 = .ok (.aload_n 2, 1) := by decide +kernel
theorem dL_law_286 : decode code 286 = .ok (.invokevirtual 57, 3) := by decide +kernel
theorem dL_law_289 : decode code 289 = .ok (.iload 5, 2) := by decide +kernel
theorem dL_law_291 : decode code 291 = .ok (.if_icmp .eq 5, 3) := by decide +kernel
theorem dL_law_294 : decode code 294 = .ok (.iconst 0, 1) := by decide +kernel
theorem dL_law_295 : decode code 295 = .ok (.ireturn, 1) := by decide +kernel
theorem dL_law_296 : decode code 296 = .ok (.iload 5, 2) := by decide +kernel
theorem dL_law_298 : decode code 298 = .ok (.ifCond .ne 15, 3) := by decide +kernel
theorem dL_law_301 : decode code 301 = .ok (.aload_n 3, 1) := by decide +kernel
theorem dL_law_302 : decode code 302 = .ok (.iconst 0, 1) := by decide +kernel
theorem dL_law_303 : decode code 303 = .ok (.laload, 1) := by decide +kernel
theorem dL_law_304 : decode code 304 = .ok (.iload 6, 2) := by decide +kernel
theorem dL_law_306 : decode code 306 = .ok (.i2l, 1) := by decide +kernel
theorem dL_law_307 : decode code 307 = .ok (.lcmp, 1) := by decide +kernel
theorem dL_law_308 : decode code 308 = .ok (.ifCond .eq 5, 3) := by decide +kernel
theorem dL_law_311 : decode code 311 = .ok (.iconst 0, 1) := by decide +kernel
theorem dL_law_312 : decode code 312 = .ok (.ireturn, 1) := by decide +kernel
theorem dL_law_313 : decode code 313 = .ok (.goto 554, 3) := by decide +kernel
theorem dL_law_316 : decode code 316 = .ok (.aload_n 1, 1) := by decide +kernel
theorem dL_law_317 : decode code 317 = .ok (.aload_n 0, 1) := by decide +kernel
theorem dL_law_318 : decode code 318 = .ok (.iload 4, 2) := by decide +kernel
theorem dL_law_320 : decode code 320 = .ok (.iconst 1, 1) := by decide +kernel
theorem dL_law_321 : decode code 321 = .ok (.iadd, 1) := by decide +kernel
theorem dL_law_322 : decode code 322 = .ok (.iaload, 1) := by decide +kernel
theorem dL_law_323 : decode code 323 = .ok (.aload_n 3, 1) := by decide +kernel
theorem dL_law_324 : decode code 324 = .ok (.invokestatic 69, 3) := by decide +kernel
theorem dL_law_327 : decode code 327 = .ok (.istore 5, 2) := by decide +kernel
theorem dL_law_329 : decode code 329 = .ok (.aload_n 2, 1) := by decide +kernel
theorem dL_law_330 : decode code 330 = .ok (.aload_n 0, 1) := by decide +kernel
theorem dL_law_331 : decode code 331 = .ok (.iload 4, 2) := by decide +kernel
theorem dL_law_333 : decode code 333 = .ok (.iconst 1, 1) := by decide +kernel
theorem dL_law_334 : decode code 334 = .ok (.iadd, 1) := by decide +kernel
theorem dL_law_335 : decode code 335 = .ok (.iaload, 1) := by decide +kernel
theorem dL_law_336 : decode code 336 = .ok (.invokevirtual 71, 3) := by decide +kernel
theorem dL_law_339 : decode code 339 = .ok (.istore 6, 2) := by decide +kernel
theorem dL_law_341 : decode code 341 = .ok (.aload_n 2, 1) := by decide +kernel
theorem dL_law_342 : decode code 342 = .ok (.invokevirtual 57, 3) := by decide +kernel
theorem dL_law_345 : decode code 345 = .ok (.iload 5, 2) := by decide +kernel
theorem dL_law_347 : decode code 347 = .ok (.if_icmp .eq 5, 3) := by decide +kernel
theorem dL_law_350 : decode code 350 = .ok (.iconst 0, 1) := by decide +kernel
theorem dL_law_351 : decode code 351 = .ok (.ireturn, 1) := by decide +kernel
theorem dL_law_352 : decode code 352 = .ok (.iload 5, 2) := by decide +kernel
theorem dL_law_354 : decode code 354 = .ok (.ifCond .ne 15, 3) := by decide +kernel
theorem dL_law_357 : decode code 357 = .ok (.aload_n 3, 1) := by decide +kernel
theorem dL_law_358 : decode code 358 = .ok (.iconst 0, 1) := by decide +kernel
theorem dL_law_359 : decode code 359 = .ok (.laload, 1) := by decide +kernel
theorem dL_law_360 : decode code 360 = .ok (.iload 6, 2) := by decide +kernel
theorem dL_law_362 : decode code 362 = .ok (.i2l, 1) := by decide +kernel
theorem dL_law_363 : decode code 363 = .ok (.lcmp, 1) := by decide +kernel
theorem dL_law_364 : decode code 364 = .ok (.ifCond .eq 5, 3) := by decide +kernel
theorem dL_law_367 : decode code 367 = .ok (.iconst 0, 1) := by decide +kernel
theorem dL_law_368 : decode code 368 = .ok (.ireturn, 1) := by decide +kernel
theorem dL_law_369 : decode code 369 = .ok (.goto 498, 3) := by decide +kernel
theorem dL_law_372 : decode code 372 = .ok (.aload_n 1, 1) := by decide +kernel
theorem dL_law_373 : decode code 373 = .ok (.aload_n 0, 1) := by decide +kernel
theorem dL_law_374 : decode code 374 = .ok (.iload 4, 2) := by decide +kernel
theorem dL_law_376 : decode code 376 = .ok (.iconst 1, 1) := by decide +kernel
theorem dL_law_377 : decode code 377 = .ok (.iadd, 1) := by decide +kernel
theorem dL_law_378 : decode code 378 = .ok (.iaload, 1) := by decide +kernel
theorem dL_law_379 : decode code 379 = .ok (.aload_n 0, 1) := by decide +kernel
theorem dL_law_380 : decode code 380 = .ok (.iload 4, 2) := by decide +kernel
theorem dL_law_382 : decode code 382 = .ok (.iconst 2, 1) := by decide +kernel
theorem dL_law_383 : decode code 383 = .ok (.iadd, 1) := by decide +kernel
theorem dL_law_384 : decode code 384 = .ok (.iaload, 1) := by decide +kernel
theorem dL_law_385 : decode code 385 = .ok (.invokevirtual 72, 3) := by decide +kernel
theorem dL_law_388 : decode code 388 = .ok (.aload_n 2, 1) := by decide +kernel
theorem dL_law_389 : decode code 389 = .ok (.aload_n 0, 1) := by decide +kernel
theorem dL_law_390 : decode code 390 = .ok (.iload 4, 2) := by decide +kernel
theorem dL_law_392 : decode code 392 = .ok (.iconst 1, 1) := by decide +kernel
theorem dL_law_393 : decode code 393 = .ok (.iadd, 1) := by decide +kernel
theorem dL_law_394 : decode code 394 = .ok (.iaload, 1) := by decide +kernel
theorem dL_law_395 : decode code 395 = .ok (.aload_n 0, 1) := by decide +kernel
theorem dL_law_396 : decode code 396 = .ok (.iload 4, 2) := by decide +kernel
theorem dL_law_398 : decode code 398 = .ok (.iconst 2, 1) := by decide +kernel
theorem dL_law_399 : decode code 399 = .ok (.iadd, 1) := by decide +kernel
theorem dL_law_400 : decode code 400 = .ok (.iaload, 1) := by decide +kernel
theorem dL_law_401 : decode code 401 = .ok (.invokevirtual 76, 3) := by decide +kernel
theorem dL_law_404 : decode code 404 = .ok (.if_icmp .eq 463, 3) := by decide +kernel
theorem dL_law_407 : decode code 407 = .ok (.iconst 0, 1) := by decide +kernel
theorem dL_law_408 : decode code 408 = .ok (.ireturn, 1) := by decide +kernel
theorem dL_law_409 : decode code 409 = .ok (.aload_n 1, 1) := by decide +kernel
theorem dL_law_410 : decode code 410 = .ok (.aload_n 0, 1) := by decide +kernel
theorem dL_law_411 : decode code 411 = .ok (.iload 4, 2) := by decide +kernel
theorem dL_law_413 : decode code 413 = .ok (.iconst 1, 1) := by decide +kernel
theorem dL_law_414 : decode code 414 = .ok (.iadd, 1) := by decide +kernel
theorem dL_law_415 : decode code 415 = .ok (.iaload, 1) := by decide +kernel
theorem dL_law_416 : decode code 416 = .ok (.aload_n 0, 1) := by decide +kernel
theorem dL_law_417 : decode code 417 = .ok (.iload 4, 2) := by decide +kernel
theorem dL_law_419 : decode code 419 = .ok (.iconst 2, 1) := by decide +kernel
theorem dL_law_420 : decode code 420 = .ok (.iadd, 1) := by decide +kernel
theorem dL_law_421 : decode code 421 = .ok (.iaload, 1) := by decide +kernel
theorem dL_law_422 : decode code 422 = .ok (.ifCond .eq 7, 3) := by decide +kernel
theorem dL_law_425 : decode code 425 = .ok (.iconst 1, 1) := by decide +kernel
theorem dL_law_426 : decode code 426 = .ok (.goto 4, 3) := by decide +kernel
theorem dL_law_429 : decode code 429 = .ok (.iconst 0, 1) := by decide +kernel
theorem dL_law_430 : decode code 430 = .ok (.invokevirtual 77, 3) := by decide +kernel
theorem dL_law_433 : decode code 433 = .ok (.aload_n 2, 1) := by decide +kernel
theorem dL_law_434 : decode code 434 = .ok (.aload_n 0, 1) := by decide +kernel
theorem dL_law_435 : decode code 435 = .ok (.iload 4, 2) := by decide +kernel
theorem dL_law_437 : decode code 437 = .ok (.iconst 1, 1) := by decide +kernel
theorem dL_law_438 : decode code 438 = .ok (.iadd, 1) := by decide +kernel
theorem dL_law_439 : decode code 439 = .ok (.iaload, 1) := by decide +kernel
theorem dL_law_440 : decode code 440 = .ok (.aload_n 0, 1) := by decide +kernel
theorem dL_law_441 : decode code 441 = .ok (.iload 4, 2) := by decide +kernel
theorem dL_law_443 : decode code 443 = .ok (.iconst 2, 1) := by decide +kernel
theorem dL_law_444 : decode code 444 = .ok (.iadd, 1) := by decide +kernel
theorem dL_law_445 : decode code 445 = .ok (.iaload, 1) := by decide +kernel
theorem dL_law_446 : decode code 446 = .ok (.ifCond .eq 7, 3) := by decide +kernel
theorem dL_law_449 : decode code 449 = .ok (.iconst 1, 1) := by decide +kernel
theorem dL_law_450 : decode code 450 = .ok (.goto 4, 3) := by decide +kernel
theorem dL_law_453 : decode code 453 = .ok (.iconst 0, 1) := by decide +kernel
theorem dL_law_454 : decode code 454 = .ok (.invokevirtual 81, 3) := by decide +kernel
theorem dL_law_457 : decode code 457 = .ok (.if_icmp .eq 410, 3) := by decide +kernel
theorem dL_law_460 : decode code 460 = .ok (.iconst 0, 1) := by decide +kernel
theorem dL_law_461 : decode code 461 = .ok (.ireturn, 1) := by decide +kernel
theorem dL_law_462 : decode code 462 = .ok (.aload_n 1, 1) := by decide +kernel
theorem dL_law_463 : decode code 463 = .ok (.aload_n 0, 1) := by decide +kernel
theorem dL_law_464 : decode code 464 = .ok (.iload 4, 2) := by decide +kernel
theorem dL_law_466 : decode code 466 = .ok (.iconst 1, 1) := by decide +kernel
theorem dL_law_467 : decode code 467 = .ok (.iadd, 1) := by decide +kernel
theorem dL_law_468 : decode code 468 = .ok (.iaload, 1) := by decide +kernel
theorem dL_law_469 : decode code 469 = .ok (.aload_n 0, 1) := by decide +kernel
theorem dL_law_470 : decode code 470 = .ok (.iload 4, 2) := by decide +kernel
theorem dL_law_472 : decode code 472 = .ok (.iconst 2, 1) := by decide +kernel
theorem dL_law_473 : decode code 473 = .ok (.iadd, 1) := by decide +kernel
theorem dL_law_474 : decode code 474 = .ok (.iaload, 1) := by decide +kernel
theorem dL_law_475 : decode code 475 = .ok (.aload_n 0, 1) := by decide +kernel
theorem dL_law_476 : decode code 476 = .ok (.iload 4, 2) := by decide +kernel
theorem dL_law_478 : decode code 478 = .ok (.iconst 3, 1) := by decide +kernel
theorem dL_law_479 : decode code 479 = .ok (.iadd, 1) := by decide +kernel
theorem dL_law_480 : decode code 480 = .ok (.iaload, 1) := by decide +kernel
theorem dL_law_481 : decode code 481 = .ok (.ifCond .eq 7, 3) := by decide +kernel
theorem dL_law_484 : decode code 484 = .ok (.iconst 1, 1) := by decide +kernel
theorem dL_law_485 : decode code 485 = .ok (.goto 4, 3) := by decide +kernel
theorem dL_law_488 : decode code 488 = .ok (.iconst 0, 1) := by decide +kernel
theorem dL_law_489 : decode code 489 = .ok (.aload_n 3, 1) := by decide +kernel
theorem dL_law_490 : decode code 490 = .ok (.invokestatic 82, 3) := by decide +kernel
theorem dL_law_493 : decode code 493 = .ok (.istore 5, 2) := by decide +kernel
theorem dL_law_495 : decode code 495 = .ok (.aload_n 2, 1) := by decide +kernel
theorem dL_law_496 : decode code 496 = .ok (.aload_n 0, 1) := by decide +kernel
theorem dL_law_497 : decode code 497 = .ok (.iload 4, 2) := by decide +kernel
theorem dL_law_499 : decode code 499 = .ok (.iconst 1, 1) := by decide +kernel
theorem dL_law_500 : decode code 500 = .ok (.iadd, 1) := by decide +kernel
theorem dL_law_501 : decode code 501 = .ok (.iaload, 1) := by decide +kernel
theorem dL_law_502 : decode code 502 = .ok (.aload_n 0, 1) := by decide +kernel
theorem dL_law_503 : decode code 503 = .ok (.iload 4, 2) := by decide +kernel
theorem dL_law_505 : decode code 505 = .ok (.iconst 2, 1) := by decide +kernel
theorem dL_law_506 : decode code 506 = .ok (.iadd, 1) := by decide +kernel
theorem dL_law_507 : decode code 507 = .ok (.iaload, 1) := by decide +kernel
theorem dL_law_508 : decode code 508 = .ok (.aload_n 0, 1) := by decide +kernel
theorem dL_law_509 : decode code 509 = .ok (.iload 4, 2) := by decide +kernel
theorem dL_law_511 : decode code 511 = .ok (.iconst 3, 1) := by decide +kernel
theorem dL_law_512 : decode code 512 = .ok (.iadd, 1) := by decide +kernel
theorem dL_law_513 : decode code 513 = .ok (.iaload, 1) := by decide +kernel
theorem dL_law_514 : decode code 514 = .ok (.ifCond .eq 7, 3) := by decide +kernel
theorem dL_law_517 : decode code 517 = .ok (.iconst 1, 1) := by decide +kernel
theorem dL_law_518 : decode code 518 = .ok (.goto 4, 3) := by decide +kernel
theorem dL_law_521 : decode code 521 = .ok (.iconst 0, 1) := by decide +kernel
theorem dL_law_522 : decode code 522 = .ok (.invokevirtual 85, 3) := by decide +kernel
theorem dL_law_525 : decode code 525 = .ok (.istore 6, 2) := by decide +kernel
theorem dL_law_527 : decode code 527 = .ok (.aload_n 2, 1) := by decide +kernel
theorem dL_law_528 : decode code 528 = .ok (.invokevirtual 57, 3) := by decide +kernel
theorem dL_law_531 : decode code 531 = .ok (.iload 5, 2) := by decide +kernel
theorem dL_law_533 : decode code 533 = .ok (.if_icmp .eq 5, 3) := by decide +kernel
theorem dL_law_536 : decode code 536 = .ok (.iconst 0, 1) := by decide +kernel
theorem dL_law_537 : decode code 537 = .ok (.ireturn, 1) := by decide +kernel
theorem dL_law_538 : decode code 538 = .ok (.iload 5, 2) := by decide +kernel
theorem dL_law_540 : decode code 540 = .ok (.ifCond .ne 15, 3) := by decide +kernel
theorem dL_law_543 : decode code 543 = .ok (.aload_n 3, 1) := by decide +kernel
theorem dL_law_544 : decode code 544 = .ok (.iconst 0, 1) := by decide +kernel
theorem dL_law_545 : decode code 545 = .ok (.laload, 1) := by decide +kernel
theorem dL_law_546 : decode code 546 = .ok (.iload 6, 2) := by decide +kernel
theorem dL_law_548 : decode code 548 = .ok (.i2l, 1) := by decide +kernel
theorem dL_law_549 : decode code 549 = .ok (.lcmp, 1) := by decide +kernel
theorem dL_law_550 : decode code 550 = .ok (.ifCond .eq 5, 3) := by decide +kernel
theorem dL_law_553 : decode code 553 = .ok (.iconst 0, 1) := by decide +kernel
theorem dL_law_554 : decode code 554 = .ok (.ireturn, 1) := by decide +kernel
theorem dL_law_555 : decode code 555 = .ok (.goto 312, 3) := by decide +kernel
theorem dL_law_558 : decode code 558 = .ok (.aload_n 1, 1) := by decide +kernel
theorem dL_law_559 : decode code 559 = .ok (.aload_n 0, 1) := by decide +kernel
theorem dL_law_560 : decode code 560 = .ok (.iload 4, 2) := by decide +kernel
theorem dL_law_562 : decode code 562 = .ok (.iconst 1, 1) := by decide +kernel
theorem dL_law_563 : decode code 563 = .ok (.iadd, 1) := by decide +kernel
theorem dL_law_564 : decode code 564 = .ok (.iaload, 1) := by decide +kernel
theorem dL_law_565 : decode code 565 = .ok (.aload_n 0, 1) := by decide +kernel
theorem dL_law_566 : decode code 566 = .ok (.iload 4, 2) := by decide +kernel
theorem dL_law_568 : decode code 568 = .ok (.iconst 2, 1) := by decide +kernel
theorem dL_law_569 : decode code 569 = .ok (.iadd, 1) := by decide +kernel
theorem dL_law_570 : decode code 570 = .ok (.iaload, 1) := by decide +kernel
theorem dL_law_571 : decode code 571 = .ok (.aload_n 0, 1) := by decide +kernel
theorem dL_law_572 : decode code 572 = .ok (.iload 4, 2) := by decide +kernel
theorem dL_law_574 : decode code 574 = .ok (.iconst 3, 1) := by decide +kernel
theorem dL_law_575 : decode code 575 = .ok (.iadd, 1) := by decide +kernel
theorem dL_law_576 : decode code 576 = .ok (.iaload, 1) := by decide +kernel
theorem dL_law_577 : decode code 577 = .ok (.aload_n 3, 1) := by decide +kernel
theorem dL_law_578 : decode code 578 = .ok (.invokestatic 86, 3) := by decide +kernel
theorem dL_law_581 : decode code 581 = .ok (.istore 5, 2) := by decide +kernel
theorem dL_law_583 : decode code 583 = .ok (.aload_n 2, 1) := by decide +kernel
theorem dL_law_584 : decode code 584 = .ok (.aload_n 0, 1) := by decide +kernel
theorem dL_law_585 : decode code 585 = .ok (.iload 4, 2) := by decide +kernel
theorem dL_law_587 : decode code 587 = .ok (.iconst 1, 1) := by decide +kernel
theorem dL_law_588 : decode code 588 = .ok (.iadd, 1) := by decide +kernel
theorem dL_law_589 : decode code 589 = .ok (.iaload, 1) := by decide +kernel
theorem dL_law_590 : decode code 590 = .ok (.aload_n 0, 1) := by decide +kernel
theorem dL_law_591 : decode code 591 = .ok (.iload 4, 2) := by decide +kernel
theorem dL_law_593 : decode code 593 = .ok (.iconst 2, 1) := by decide +kernel
theorem dL_law_594 : decode code 594 = .ok (.iadd, 1) := by decide +kernel
theorem dL_law_595 : decode code 595 = .ok (.iaload, 1) := by decide +kernel
theorem dL_law_596 : decode code 596 = .ok (.aload_n 0, 1) := by decide +kernel
theorem dL_law_597 : decode code 597 = .ok (.iload 4, 2) := by decide +kernel
theorem dL_law_599 : decode code 599 = .ok (.iconst 3, 1) := by decide +kernel
theorem dL_law_600 : decode code 600 = .ok (.iadd, 1) := by decide +kernel
theorem dL_law_601 : decode code 601 = .ok (.iaload, 1) := by decide +kernel
theorem dL_law_602 : decode code 602 = .ok (.invokevirtual 89, 3) := by decide +kernel
theorem dL_law_605 : decode code 605 = .ok (.istore 6, 2) := by decide +kernel
theorem dL_law_607 : decode code 607 = .ok (.aload_n 2, 1) := by decide +kernel
theorem dL_law_608 : decode code 608 = .ok (.invokevirtual 57, 3) := by decide +kernel
theorem dL_law_611 : decode code 611 = .ok (.iload 5, 2) := by decide +kernel
theorem dL_law_613 : decode code 613 = .ok (.if_icmp .eq 5, 3) := by decide +kernel
theorem dL_law_616 : decode code 616 = .ok (.iconst 0, 1) := by decide +kernel
theorem dL_law_617 : decode code 617 = .ok (.ireturn, 1) := by decide +kernel
theorem dL_law_618 : decode code 618 = .ok (.iload 5, 2) := by decide +kernel
theorem dL_law_620 : decode code 620 = .ok (.ifCond .ne 15, 3) := by decide +kernel
theorem dL_law_623 : decode code 623 = .ok (.aload_n 3, 1) := by decide +kernel
theorem dL_law_624 : decode code 624 = .ok (.iconst 0, 1) := by decide +kernel
theorem dL_law_625 : decode code 625 = .ok (.laload, 1) := by decide +kernel
theorem dL_law_626 : decode code 626 = .ok (.iload 6, 2) := by decide +kernel
theorem dL_law_628 : decode code 628 = .ok (.i2l, 1) := by decide +kernel
theorem dL_law_629 : decode code 629 = .ok (.lcmp, 1) := by decide +kernel
theorem dL_law_630 : decode code 630 = .ok (.ifCond .eq 5, 3) := by decide +kernel
theorem dL_law_633 : decode code 633 = .ok (.iconst 0, 1) := by decide +kernel
theorem dL_law_634 : decode code 634 = .ok (.ireturn, 1) := by decide +kernel
theorem dL_law_635 : decode code 635 = .ok (.goto 232, 3) := by decide +kernel
theorem dL_law_638 : decode code 638 = .ok (.aload_n 1, 1) := by decide +kernel
theorem dL_law_639 : decode code 639 = .ok (.aload_n 0, 1) := by decide +kernel
theorem dL_law_640 : decode code 640 = .ok (.iload 4, 2) := by decide +kernel
theorem dL_law_642 : decode code 642 = .ok (.iconst 1, 1) := by decide +kernel
theorem dL_law_643 : decode code 643 = .ok (.iadd, 1) := by decide +kernel
theorem dL_law_644 : decode code 644 = .ok (.iaload, 1) := by decide +kernel
theorem dL_law_645 : decode code 645 = .ok (.aload_n 0, 1) := by decide +kernel
theorem dL_law_646 : decode code 646 = .ok (.iload 4, 2) := by decide +kernel
theorem dL_law_648 : decode code 648 = .ok (.iconst 2, 1) := by decide +kernel
theorem dL_law_649 : decode code 649 = .ok (.iadd, 1) := by decide +kernel
theorem dL_law_650 : decode code 650 = .ok (.iaload, 1) := by decide +kernel
theorem dL_law_651 : decode code 651 = .ok (.aload_n 3, 1) := by decide +kernel
theorem dL_law_652 : decode code 652 = .ok (.invokestatic 90, 3) := by decide +kernel
theorem dL_law_655 : decode code 655 = .ok (.istore 5, 2) := by decide +kernel
theorem dL_law_657 : decode code 657 = .ok (.aload_n 2, 1) := by decide +kernel
theorem dL_law_658 : decode code 658 = .ok (.aload_n 0, 1) := by decide +kernel
theorem dL_law_659 : decode code 659 = .ok (.iload 4, 2) := by decide +kernel
theorem dL_law_661 : decode code 661 = .ok (.iconst 1, 1) := by decide +kernel
theorem dL_law_662 : decode code 662 = .ok (.iadd, 1) := by decide +kernel
theorem dL_law_663 : decode code 663 = .ok (.iaload, 1) := by decide +kernel
theorem dL_law_664 : decode code 664 = .ok (.aload_n 0, 1) := by decide +kernel
theorem dL_law_665 : decode code 665 = .ok (.iload 4, 2) := by decide +kernel
theorem dL_law_667 : decode code 667 = .ok (.iconst 2, 1) := by decide +kernel
theorem dL_law_668 : decode code 668 = .ok (.iadd, 1) := by decide +kernel
theorem dL_law_669 : decode code 669 = .ok (.iaload, 1) := by decide +kernel
theorem dL_law_670 : decode code 670 = .ok (.invokevirtual 92, 3) := by decide +kernel
theorem dL_law_673 : decode code 673 = .ok (.istore 6, 2) := by decide +kernel
theorem dL_law_675 : decode code 675 = .ok (.aload_n 2, 1) := by decide +kernel
theorem dL_law_676 : decode code 676 = .ok (.invokevirtual 57, 3) := by decide +kernel
theorem dL_law_679 : decode code 679 = .ok (.iload 5, 2) := by decide +kernel
theorem dL_law_681 : decode code 681 = .ok (.if_icmp .eq 5, 3) := by decide +kernel
theorem dL_law_684 : decode code 684 = .ok (.iconst 0, 1) := by decide +kernel
theorem dL_law_685 : decode code 685 = .ok (.ireturn, 1) := by decide +kernel
theorem dL_law_686 : decode code 686 = .ok (.iload 5, 2) := by decide +kernel
theorem dL_law_688 : decode code 688 = .ok (.ifCond .ne 15, 3) := by decide +kernel
theorem dL_law_691 : decode code 691 = .ok (.aload_n 3, 1) := by decide +kernel
theorem dL_law_692 : decode code 692 = .ok (.iconst 0, 1) := by decide +kernel
theorem dL_law_693 : decode code 693 = .ok (.laload, 1) := by decide +kernel
theorem dL_law_694 : decode code 694 = .ok (.iload 6, 2) := by decide +kernel
theorem dL_law_696 : decode code 696 = .ok (.i2l, 1) := by decide +kernel
theorem dL_law_697 : decode code 697 = .ok (.lcmp, 1) := by decide +kernel
theorem dL_law_698 : decode code 698 = .ok (.ifCond .eq 5, 3) := by decide +kernel
theorem dL_law_701 : decode code 701 = .ok (.iconst 0, 1) := by decide +kernel
theorem dL_law_702 : decode code 702 = .ok (.ireturn, 1) := by decide +kernel
theorem dL_law_703 : decode code 703 = .ok (.goto 164, 3) := by decide +kernel
theorem dL_law_706 : decode code 706 = .ok (.aload_n 1, 1) := by decide +kernel
theorem dL_law_707 : decode code 707 = .ok (.aload_n 0, 1) := by decide +kernel
theorem dL_law_708 : decode code 708 = .ok (.iload 4, 2) := by decide +kernel
theorem dL_law_710 : decode code 710 = .ok (.iconst 1, 1) := by decide +kernel
theorem dL_law_711 : decode code 711 = .ok (.iadd, 1) := by decide +kernel
theorem dL_law_712 : decode code 712 = .ok (.iaload, 1) := by decide +kernel
theorem dL_law_713 : decode code 713 = .ok (.aload_n 0, 1) := by decide +kernel
theorem dL_law_714 : decode code 714 = .ok (.iload 4, 2) := by decide +kernel
theorem dL_law_716 : decode code 716 = .ok (.iconst 2, 1) := by decide +kernel
theorem dL_law_717 : decode code 717 = .ok (.iadd, 1) := by decide +kernel
theorem dL_law_718 : decode code 718 = .ok (.iaload, 1) := by decide +kernel
theorem dL_law_719 : decode code 719 = .ok (.aload_n 3, 1) := by decide +kernel
theorem dL_law_720 : decode code 720 = .ok (.invokestatic 93, 3) := by decide +kernel
theorem dL_law_723 : decode code 723 = .ok (.istore 5, 2) := by decide +kernel
theorem dL_law_725 : decode code 725 = .ok (.aload_n 2, 1) := by decide +kernel
theorem dL_law_726 : decode code 726 = .ok (.aload_n 0, 1) := by decide +kernel
theorem dL_law_727 : decode code 727 = .ok (.iload 4, 2) := by decide +kernel
theorem dL_law_729 : decode code 729 = .ok (.iconst 1, 1) := by decide +kernel
theorem dL_law_730 : decode code 730 = .ok (.iadd, 1) := by decide +kernel
theorem dL_law_731 : decode code 731 = .ok (.iaload, 1) := by decide +kernel
theorem dL_law_732 : decode code 732 = .ok (.aload_n 0, 1) := by decide +kernel
theorem dL_law_733 : decode code 733 = .ok (.iload 4, 2) := by decide +kernel
theorem dL_law_735 : decode code 735 = .ok (.iconst 2, 1) := by decide +kernel
theorem dL_law_736 : decode code 736 = .ok (.iadd, 1) := by decide +kernel
theorem dL_law_737 : decode code 737 = .ok (.iaload, 1) := by decide +kernel
theorem dL_law_738 : decode code 738 = .ok (.invokevirtual 95, 3) := by decide +kernel
theorem dL_law_741 : decode code 741 = .ok (.istore 6, 2) := by decide +kernel
theorem dL_law_743 : decode code 743 = .ok (.aload_n 2, 1) := by decide +kernel
theorem dL_law_744 : decode code 744 = .ok (.invokevirtual 57, 3) := by decide +kernel
theorem dL_law_747 : decode code 747 = .ok (.iload 5, 2) := by decide +kernel
theorem dL_law_749 : decode code 749 = .ok (.if_icmp .eq 5, 3) := by decide +kernel
theorem dL_law_752 : decode code 752 = .ok (.iconst 0, 1) := by decide +kernel
theorem dL_law_753 : decode code 753 = .ok (.ireturn, 1) := by decide +kernel
theorem dL_law_754 : decode code 754 = .ok (.iload 5, 2) := by decide +kernel
theorem dL_law_756 : decode code 756 = .ok (.ifCond .ne 15, 3) := by decide +kernel
theorem dL_law_759 : decode code 759 = .ok (.aload_n 3, 1) := by decide +kernel
theorem dL_law_760 : decode code 760 = .ok (.iconst 0, 1) := by decide +kernel
theorem dL_law_761 : decode code 761 = .ok (.laload, 1) := by decide +kernel
theorem dL_law_762 : decode code 762 = .ok (.iload 6, 2) := by decide +kernel
theorem dL_law_764 : decode code 764 = .ok (.i2l, 1) := by decide +kernel
theorem dL_law_765 : decode code 765 = .ok (.lcmp, 1) := by decide +kernel
theorem dL_law_766 : decode code 766 = .ok (.ifCond .eq 5, 3) := by decide +kernel
theorem dL_law_769 : decode code 769 = .ok (.iconst 0, 1) := by decide +kernel
theorem dL_law_770 : decode code 770 = .ok (.ireturn, 1) := by decide +kernel
theorem dL_law_771 : decode code 771 = .ok (.goto 96, 3) := by decide +kernel
theorem dL_law_774 : decode code 774 = .ok (.aload_n 1, 1) := by decide +kernel
theorem dL_law_775 : decode code 775 = .ok (.aload_n 0, 1) := by decide +kernel
theorem dL_law_776 : decode code 776 = .ok (.iload 4, 2) := by decide +kernel
theorem dL_law_778 : decode code 778 = .ok (.iconst 1, 1) := by decide +kernel
theorem dL_law_779 : decode code 779 = .ok (.iadd, 1) := by decide +kernel
theorem dL_law_780 : decode code 780 = .ok (.iaload, 1) := by decide +kernel
theorem dL_law_781 : decode code 781 = .ok (.aload_n 0, 1) := by decide +kernel
theorem dL_law_782 : decode code 782 = .ok (.iload 4, 2) := by decide +kernel
theorem dL_law_784 : decode code 784 = .ok (.iconst 2, 1) := by decide +kernel
theorem dL_law_785 : decode code 785 = .ok (.iadd, 1) := by decide +kernel
theorem dL_law_786 : decode code 786 = .ok (.iaload, 1) := by decide +kernel
theorem dL_law_787 : decode code 787 = .ok (.aload_n 3, 1) := by decide +kernel
theorem dL_law_788 : decode code 788 = .ok (.invokestatic 96, 3) := by decide +kernel
theorem dL_law_791 : decode code 791 = .ok (.istore 5, 2) := by decide +kernel
theorem dL_law_793 : decode code 793 = .ok (.aload_n 2, 1) := by decide +kernel
theorem dL_law_794 : decode code 794 = .ok (.aload_n 0, 1) := by decide +kernel
theorem dL_law_795 : decode code 795 = .ok (.iload 4, 2) := by decide +kernel
theorem dL_law_797 : decode code 797 = .ok (.iconst 1, 1) := by decide +kernel
theorem dL_law_798 : decode code 798 = .ok (.iadd, 1) := by decide +kernel
theorem dL_law_799 : decode code 799 = .ok (.iaload, 1) := by decide +kernel
theorem dL_law_800 : decode code 800 = .ok (.aload_n 0, 1) := by decide +kernel
theorem dL_law_801 : decode code 801 = .ok (.iload 4, 2) := by decide +kernel
theorem dL_law_803 : decode code 803 = .ok (.iconst 2, 1) := by decide +kernel
theorem dL_law_804 : decode code 804 = .ok (.iadd, 1) := by decide +kernel
theorem dL_law_805 : decode code 805 = .ok (.iaload, 1) := by decide +kernel
theorem dL_law_806 : decode code 806 = .ok (.invokevirtual 98, 3) := by decide +kernel
theorem dL_law_809 : decode code 809 = .ok (.istore 6, 2) := by decide +kernel
theorem dL_law_811 : decode code 811 = .ok (.aload_n 2, 1) := by decide +kernel
theorem dL_law_812 : decode code 812 = .ok (.invokevirtual 57, 3) := by decide +kernel
theorem dL_law_815 : decode code 815 = .ok (.iload 5, 2) := by decide +kernel
theorem dL_law_817 : decode code 817 = .ok (.if_icmp .eq 5, 3) := by decide +kernel
theorem dL_law_820 : decode code 820 = .ok (.iconst 0, 1) := by decide +kernel
theorem dL_law_821 : decode code 821 = .ok (.ireturn, 1) := by decide +kernel
theorem dL_law_822 : decode code 822 = .ok (.iload 5, 2) := by decide +kernel
theorem dL_law_824 : decode code 824 = .ok (.ifCond .ne 15, 3) := by decide +kernel
theorem dL_law_827 : decode code 827 = .ok (.aload_n 3, 1) := by decide +kernel
theorem dL_law_828 : decode code 828 = .ok (.iconst 0, 1) := by decide +kernel
theorem dL_law_829 : decode code 829 = .ok (.laload, 1) := by decide +kernel
theorem dL_law_830 : decode code 830 = .ok (.iload 6, 2) := by decide +kernel
theorem dL_law_832 : decode code 832 = .ok (.i2l, 1) := by decide +kernel
theorem dL_law_833 : decode code 833 = .ok (.lcmp, 1) := by decide +kernel
theorem dL_law_834 : decode code 834 = .ok (.ifCond .eq 5, 3) := by decide +kernel
theorem dL_law_837 : decode code 837 = .ok (.iconst 0, 1) := by decide +kernel
theorem dL_law_838 : decode code 838 = .ok (.ireturn, 1) := by decide +kernel
theorem dL_law_839 : decode code 839 = .ok (.goto 28, 3) := by decide +kernel
theorem dL_law_842 : decode code 842 = .ok (.aload_n 1, 1) := by decide +kernel
theorem dL_law_843 : decode code 843 = .ok (.aload_n 0, 1) := by decide +kernel
theorem dL_law_844 : decode code 844 = .ok (.iload 4, 2) := by decide +kernel
theorem dL_law_846 : decode code 846 = .ok (.iconst 1, 1) := by decide +kernel
theorem dL_law_847 : decode code 847 = .ok (.iadd, 1) := by decide +kernel
theorem dL_law_848 : decode code 848 = .ok (.iaload, 1) := by decide +kernel
theorem dL_law_849 : decode code 849 = .ok (.invokevirtual 99, 3) := by decide +kernel
theorem dL_law_852 : decode code 852 = .ok (.aload_n 2, 1) := by decide +kernel
theorem dL_law_853 : decode code 853 = .ok (.aload_n 0, 1) := by decide +kernel
theorem dL_law_854 : decode code 854 = .ok (.iload 4, 2) := by decide +kernel
theorem dL_law_856 : decode code 856 = .ok (.iconst 1, 1) := by decide +kernel
theorem dL_law_857 : decode code 857 = .ok (.iadd, 1) := by decide +kernel
theorem dL_law_858 : decode code 858 = .ok (.iaload, 1) := by decide +kernel
theorem dL_law_859 : decode code 859 = .ok (.invokevirtual 102, 3) := by decide +kernel
theorem dL_law_862 : decode code 862 = .ok (.if_icmp .eq 5, 3) := by decide +kernel
theorem dL_law_865 : decode code 865 = .ok (.iconst 0, 1) := by decide +kernel
theorem dL_law_866 : decode code 866 = .ok (.ireturn, 1) := by decide +kernel
theorem dL_law_867 : decode code 867 = .ok (.iinc 4 5, 3) := by decide +kernel
theorem dL_law_870 : decode code 870 = .ok (.goto (-847), 3) := by decide +kernel
theorem dL_law_873 : decode code 873 = .ok (.iconst 1, 1) := by decide +kernel
theorem dL_law_874 : decode code 874 = .ok (.ireturn, 1) := by decide +kernel
