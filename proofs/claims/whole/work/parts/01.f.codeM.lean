theorem dM_init_0 : decode cM_init 0 = .ok (.aload_n 0, 1) := by decide +kernel
theorem dM_init_1 : decode cM_init 1 = .ok (.invokespecial 1, 3) := by decide +kernel
theorem dM_init_4 : decode cM_init 4 = .ok (.aload_n 0, 1) := by decide +kernel
theorem dM_init_5 : decode cM_init 5 = .ok (.bipush 12, 2) := by decide +kernel
theorem dM_init_7 : decode cM_init 7 = .ok (.newarray .int, 2) := by decide +kernel
theorem dM_init_9 : decode cM_init 9 = .ok (.putfield 7, 3) := by decide +kernel
theorem dM_init_12 : decode cM_init 12 = .ok (.aload_n 0, 1) := by decide +kernel
theorem dM_init_13 : decode cM_init 13 = .ok (.bipush 20, 2) := by decide +kernel
theorem dM_init_15 : decode cM_init 15 = .ok (.newarray .int, 2) := by decide +kernel
theorem dM_init_17 : decode cM_init 17 = .ok (.putfield 13, 3) := by decide +kernel
theorem dM_init_20 : decode cM_init 20 = .ok (.aload_n 0, 1) := by decide +kernel
theorem dM_init_21 : decode cM_init 21 = .ok (.bipush 20, 2) := by decide +kernel
theorem dM_init_23 : decode cM_init 23 = .ok (.newarray .int, 2) := by decide +kernel
theorem dM_init_25 : decode cM_init 25 = .ok (.putfield 16, 3) := by decide +kernel
theorem dM_init_28 : decode cM_init 28 = .ok (.aload_n 0, 1) := by decide +kernel
theorem dM_init_29 : decode cM_init 29 = .ok (.bipush 20, 2) := by decide +kernel
theorem dM_init_31 : decode cM_init 31 = .ok (.newarray .int, 2) := by decide +kernel
theorem dM_init_33 : decode cM_init 33 = .ok (.putfield 19, 3) := by decide +kernel
theorem dM_init_36 : decode cM_init 36 = .ok (.aload_n 0, 1) := by decide +kernel
theorem dM_init_37 : decode cM_init 37 = .ok (.bipush 20, 2) := by decide +kernel
theorem dM_init_39 : decode cM_init 39 = .ok (.newarray .int, 2) := by decide +kernel
theorem dM_init_41 : decode cM_init 41 = .ok (.putfield 22, 3) := by decide +kernel
theorem dM_init_44 : decode cM_init 44 = .ok (.aload_n 0, 1) := by decide +kernel
theorem dM_init_45 : decode cM_init 45 = .ok (.bipush 20, 2) := by decide +kernel
theorem dM_init_47 : decode cM_init 47 = .ok (.newarray .int, 2) := by decide +kernel
theorem dM_init_49 : decode cM_init 49 = .ok (.putfield 25, 3) := by decide +kernel
theorem dM_init_52 : decode cM_init 52 = .ok (.aload_n 0, 1) := by decide +kernel
theorem dM_init_53 : decode cM_init 53 = .ok (.bipush 20, 2) := by decide +kernel
theorem dM_init_55 : decode cM_init 55 = .ok (.newarray .int, 2) := by decide +kernel
theorem dM_init_57 : decode cM_init 57 = .ok (.putfield 28, 3) := by decide +kernel
theorem dM_init_60 : decode cM_init 60 = .ok (.aload_n 0, 1) := by decide +kernel
theorem dM_init_61 : decode cM_init 61 = .ok (.bipush 20, 2) := by decide +kernel
theorem dM_init_63 : decode cM_init 63 = .ok (.newarray .int, 2) := by decide +kernel
theorem dM_init_65 : decode cM_init 65 = .ok (.putfield 31, 3) := by decide +kernel
theorem dM_init_68 : decode cM_init 68 = .ok (.aload_n 0, 1) := by decide +kernel
theorem dM_init_69 : decode cM_init 69 = .ok (.bipush 20, 2) := by decide +kernel
theorem dM_init_71 : decode cM_init 71 = .ok (.newarray .int, 2) := by decide +kernel
theorem dM_init_73 : decode cM_init 73 = .ok (.putfield 34, 3) := by decide +kernel
theorem dM_init_76 : decode cM_init 76 = .ok (.aload_n 0, 1) := by decide +kernel
theorem dM_init_77 : decode cM_init 77 = .ok (.bipush 120, 2) := by decide +kernel
theorem dM_init_79 : decode cM_init 79 = .ok (.newarray .int, 2) := by decide +kernel
theorem dM_init_81 : decode cM_init 81 = .ok (.putfield 37, 3) := by decide +kernel
theorem dM_init_84 : decode cM_init 84 = .ok (.aload_n 0, 1) := by decide +kernel
theorem dM_init_85 : decode cM_init 85 = .ok (.bipush 120, 2) := by decide +kernel
theorem dM_init_87 : decode cM_init 87 = .ok (.newarray .int, 2) := by decide +kernel
theorem dM_init_89 : decode cM_init 89 = .ok (.putfield 40, 3) := by decide +kernel
theorem dM_init_92 : decode cM_init 92 = .ok (.aload_n 0, 1) := by decide +kernel
theorem dM_init_93 : decode cM_init 93 = .ok (.bipush 120, 2) := by decide +kernel
theorem dM_init_95 : decode cM_init 95 = .ok (.newarray .int, 2) := by decide +kernel
theorem dM_init_97 : decode cM_init 97 = .ok (.putfield 43, 3) := by decide +kernel
theorem dM_init_100 : decode cM_init 100 = .ok (.aload_n 0, 1) := by decide +kernel
theorem dM_init_101 : decode cM_init 101 = .ok (.bipush 120, 2) := by decide +kernel
theorem dM_init_103 : decode cM_init 103 = .ok (.newarray .int, 2) := by decide +kernel
theorem dM_init_105 : decode cM_init 105 = .ok (.putfield 46, 3) := by decide +kernel
theorem dM_init_108 : decode cM_init 108 = .ok (.aload_n 0, 1) := by decide +kernel
theorem dM_init_109 : decode cM_init 109 = .ok (.bipush 120, 2) := by decide +kernel
theorem dM_init_111 : decode cM_init 111 = .ok (.newarray .boolean, 2) := by decide +kernel
theorem dM_init_113 : decode cM_init 113 = .ok (.putfield 49, 3) := by decide +kernel
theorem dM_init_116 : decode cM_init 116 = .ok (.aload_n 0, 1) := by decide +kernel
theorem dM_init_117 : decode cM_init 117 = .ok (.bipush 120, 2) := by decide +kernel
theorem dM_init_119 : decode cM_init 119 = .ok (.newarray .int, 2) := by decide +kernel
theorem dM_init_121 : decode cM_init 121 = .ok (.putfield 53, 3) := by decide +kernel
theorem dM_init_124 : decode cM_init 124 = .ok (.aload_n 0, 1) := by decide +kernel
theorem dM_init_125 : decode cM_init 125 = .ok (.bipush 120, 2) := by decide +kernel
theorem dM_init_127 : decode cM_init 127 = .ok (.newarray .int, 2) := by decide +kernel
theorem dM_init_129 : decode cM_init 129 = .ok (.putfield 56, 3) := by decide +kernel
theorem dM_init_132 : decode cM_init 132 = .ok (.aload_n 0, 1) := by decide +kernel
theorem dM_init_133 : decode cM_init 133 = .ok (.bipush 8, 2) := by decide +kernel
theorem dM_init_135 : decode cM_init 135 = .ok (.putfield 59, 3) := by decide +kernel
theorem dM_init_138 : decode cM_init 138 = .ok (.aload_n 0, 1) := by decide +kernel
theorem dM_init_139 : decode cM_init 139 = .ok (.bipush 16, 2) := by decide +kernel
theorem dM_init_141 : decode cM_init 141 = .ok (.putfield 63, 3) := by decide +kernel
theorem dM_init_144 : decode cM_init 144 = .ok (.aload_n 0, 1) := by decide +kernel
theorem dM_init_145 : decode cM_init 145 = .ok (.bipush 10, 2) := by decide +kernel
theorem dM_init_147 : decode cM_init 147 = .ok (.newarray .boolean, 2) := by decide +kernel
theorem dM_init_149 : decode cM_init 149 = .ok (.putfield 66, 3) := by decide +kernel
theorem dM_init_152 : decode cM_init 152 = .ok (.return_, 1) := by decide +kernel
theorem dM_thrown_0 : decode cM_thrown 0 = .ok (.aload_n 0, 1) := by decide +kernel
theorem dM_thrown_1 : decode cM_thrown 1 = .ok (.getfield 69, 3) := by decide +kernel
theorem dM_thrown_4 : decode cM_thrown 4 = .ok (.ireturn, 1) := by decide +kernel
theorem dM_refuse_0 : decode cM_refuse 0 = .ok (.aload_n 0, 1) := by decide +kernel
theorem dM_refuse_1 : decode cM_refuse 1 = .ok (.iload_n 1, 1) := by decide +kernel
theorem dM_refuse_2 : decode cM_refuse 2 = .ok (.putfield 69, 3) := by decide +kernel
theorem dM_refuse_5 : decode cM_refuse 5 = .ok (.iconst 0, 1) := by decide +kernel
theorem dM_refuse_6 : decode cM_refuse 6 = .ok (.ireturn, 1) := by decide +kernel
theorem dM_in_0 : decode cM_in 0 = .ok (.iload_n 0, 1) := by decide +kernel
theorem dM_in_1 : decode cM_in 1 = .ok (.iload_n 1, 1) := by decide +kernel
theorem dM_in_2 : decode cM_in 2 = .ok (.if_icmp .lt 12, 3) := by decide +kernel
theorem dM_in_5 : decode cM_in 5 = .ok (.iload_n 0, 1) := by decide +kernel
theorem dM_in_6 : decode cM_in 6 = .ok (.iload_n 2, 1) := by decide +kernel
theorem dM_in_7 : decode cM_in 7 = .ok (.if_icmp .gt 7, 3) := by decide +kernel
theorem dM_in_10 : decode cM_in 10 = .ok (.iconst 1, 1) := by decide +kernel
theorem dM_in_11 : decode cM_in 11 = .ok (.goto 4, 3) := by decide +kernel
theorem dM_in_14 : decode cM_in 14 = .ok (.iconst 0, 1) := by decide +kernel
theorem dM_in_15 : decode cM_in 15 = .ok (.ireturn, 1) := by decide +kernel
theorem dM_isPerson_0 : decode cM_isPerson 0 = .ok (.iload_n 1, 1) := by decide +kernel
theorem dM_isPerson_1 : decode cM_isPerson 1 = .ok (.ifCond .lt 15, 3) := by decide +kernel
theorem dM_isPerson_4 : decode cM_isPerson 4 = .ok (.iload_n 1, 1) := by decide +kernel
theorem dM_isPerson_5 : decode cM_isPerson 5 = .ok (.aload_n 0, 1) := by decide +kernel
theorem dM_isPerson_6 : decode cM_isPerson 6 = .ok (.getfield 72, 3) := by decide +kernel
theorem dM_isPerson_9 : decode cM_isPerson 9 = .ok (.if_icmp .ge 7, 3) := by decide +kernel
theorem dM_isPerson_12 : decode cM_isPerson 12 = .ok (.iconst 1, 1) := by decide +kernel
theorem dM_isPerson_13 : decode cM_isPerson 13 = .ok (.goto 4, 3) := by decide +kernel
theorem dM_isPerson_16 : decode cM_isPerson 16 = .ok (.iconst 0, 1) := by decide +kernel
theorem dM_isPerson_17 : decode cM_isPerson 17 = .ok (.ireturn, 1) := by decide +kernel
theorem dM_isOne_0 : decode cM_isOne 0 = .ok (.iload_n 1, 1) := by decide +kernel
theorem dM_isOne_1 : decode cM_isOne 1 = .ok (.ifCond .lt 15, 3) := by decide +kernel
theorem dM_isOne_4 : decode cM_isOne 4 = .ok (.iload_n 1, 1) := by decide +kernel
theorem dM_isOne_5 : decode cM_isOne 5 = .ok (.aload_n 0, 1) := by decide +kernel
theorem dM_isOne_6 : decode cM_isOne 6 = .ok (.getfield 75, 3) := by decide +kernel
theorem dM_isOne_9 : decode cM_isOne 9 = .ok (.if_icmp .ge 7, 3) := by decide +kernel
theorem dM_isOne_12 : decode cM_isOne 12 = .ok (.iconst 1, 1) := by decide +kernel
theorem dM_isOne_13 : decode cM_isOne 13 = .ok (.goto 4, 3) := by decide +kernel
theorem dM_isOne_16 : decode cM_isOne 16 = .ok (.iconst 0, 1) := by decide +kernel
theorem dM_isOne_17 : decode cM_isOne 17 = .ok (.ireturn, 1) := by decide +kernel
theorem dM_person_0 : decode cM_person 0 = .ok (.iload_n 1, 1) := by decide +kernel
theorem dM_person_1 : decode cM_person 1 = .ok (.iconst 0, 1) := by decide +kernel
theorem dM_person_2 : decode cM_person 2 = .ok (.iconst 2, 1) := by decide +kernel
theorem dM_person_3 : decode cM_person 3 = .ok (.invokestatic 78, 3) := by decide +kernel
theorem dM_person_6 : decode cM_person 6 = .ok (.ifCond .ne 9, 3) := by decide +kernel
theorem dM_person_9 : decode cM_person 9 = .ok (.aload_n 0, 1) := by decide +kernel
theorem dM_person_10 : decode cM_person 10 = .ok (.iconst 1, 1) := by decide +kernel
theorem dM_person_11 : decode cM_person 11 = .ok (.invokevirtual 82, 3) := by decide +kernel
theorem dM_person_14 : decode cM_person 14 = .ok (.ireturn, 1) := by decide +kernel
theorem dM_person_15 : decode cM_person 15 = .ok (.aload_n 0, 1) := by decide +kernel
theorem dM_person_16 : decode cM_person 16 = .ok (.getfield 72, 3) := by decide +kernel
theorem dM_person_19 : decode cM_person 19 = .ok (.bipush 12, 2) := by decide +kernel
theorem dM_person_21 : decode cM_person 21 = .ok (.if_icmp .ne 9, 3) := by decide +kernel
theorem dM_person_24 : decode cM_person 24 = .ok (.aload_n 0, 1) := by decide +kernel
theorem dM_person_25 : decode cM_person 25 = .ok (.iconst 2, 1) := by decide +kernel
theorem dM_person_26 : decode cM_person 26 = .ok (.invokevirtual 82, 3) := by decide +kernel
theorem dM_person_29 : decode cM_person 29 = .ok (.ireturn, 1) := by decide +kernel
theorem dM_person_30 : decode cM_person 30 = .ok (.aload_n 0, 1) := by decide +kernel
theorem dM_person_31 : decode cM_person 31 = .ok (.iconst 0, 1) := by decide +kernel
theorem dM_person_32 : decode cM_person 32 = .ok (.putfield 69, 3) := by decide +kernel
theorem dM_person_35 : decode cM_person 35 = .ok (.aload_n 0, 1) := by decide +kernel
theorem dM_person_36 : decode cM_person 36 = .ok (.getfield 7, 3) := by decide +kernel
theorem dM_person_39 : decode cM_person 39 = .ok (.aload_n 0, 1) := by decide +kernel
theorem dM_person_40 : decode cM_person 40 = .ok (.getfield 72, 3) := by decide +kernel
theorem dM_person_43 : decode cM_person 43 = .ok (.iload_n 1, 1) := by decide +kernel
theorem dM_person_44 : decode cM_person 44 = .ok (.iastore, 1) := by decide +kernel
theorem dM_person_45 : decode cM_person 45 = .ok (.aload_n 0, 1) := by decide +kernel
theorem dM_person_46 : decode cM_person 46 = .ok (.dup, 1) := by decide +kernel
theorem dM_person_47 : decode cM_person 47 = .ok (.getfield 72, 3) := by decide +kernel
theorem dM_person_50 : decode cM_person 50 = .ok (.iconst 1, 1) := by decide +kernel
theorem dM_person_51 : decode cM_person 51 = .ok (.iadd, 1) := by decide +kernel
theorem dM_person_52 : decode cM_person 52 = .ok (.putfield 72, 3) := by decide +kernel
theorem dM_person_55 : decode cM_person 55 = .ok (.aload_n 0, 1) := by decide +kernel
theorem dM_person_56 : decode cM_person 56 = .ok (.getfield 72, 3) := by decide +kernel
theorem dM_person_59 : decode cM_person 59 = .ok (.iconst 1, 1) := by decide +kernel
theorem dM_person_60 : decode cM_person 60 = .ok (.isub, 1) := by decide +kernel
theorem dM_person_61 : decode cM_person 61 = .ok (.ireturn, 1) := by decide +kernel
theorem dM_declaration_0 : decode cM_declaration 0 = .ok (.iload_n 1, 1) := by decide +kernel
theorem dM_declaration_1 : decode cM_declaration 1 = .ok (.iconst 0, 1) := by decide +kernel
theorem dM_declaration_2 : decode cM_declaration 2 = .ok (.iconst 2, 1) := by decide +kernel
theorem dM_declaration_3 : decode cM_declaration 3 = .ok (.invokestatic 78, 3) := by decide +kernel
theorem dM_declaration_6 : decode cM_declaration 6 = .ok (.ifCond .eq 20, 3) := by decide +kernel
theorem dM_declaration_9 : decode cM_declaration 9 = .ok (.aload_n 0, 1) := by decide +kernel
theorem dM_declaration_10 : decode cM_declaration 10 = .ok (.iload_n 2, 1) := by decide +kernel
theorem dM_declaration_11 : decode cM_declaration 11 = .ok (.invokevirtual 86, 3) := by decide +kernel
theorem dM_declaration_14 : decode cM_declaration 14 = .ok (.ifCond .eq 12, 3) := by decide +kernel
theorem dM_declaration_17 : decode cM_declaration 17 = .ok (.aload_n 0, 1) := by decide +kernel
theorem dM_declaration_18 : decode cM_declaration 18 = .ok (.getfield 7, 3) := by decide +kernel
theorem dM_declaration_21 : decode cM_declaration 21 = .ok (.iload_n 2, 1) := by decide +kernel
theorem dM_declaration_22 : decode cM_declaration 22 = .ok (.iaload, 1) := by decide +kernel
theorem dM_declaration_23 : decode cM_declaration 23 = .ok (.ifCond .eq 9, 3) := by decide +kernel
theorem dM_declaration_26 : decode cM_declaration 26 = .ok (.aload_n 0, 1) := by decide +kernel
theorem dM_declaration_27 : decode cM_declaration 27 = .ok (.iconst 1, 1) := by decide +kernel
theorem dM_declaration_28 : decode cM_declaration 28 = .ok (.invokevirtual 82, 3) := by decide +kernel
theorem dM_declaration_31 : decode cM_declaration 31 = .ok (.ireturn, 1) := by decide +kernel
theorem dM_declaration_32 : decode cM_declaration 32 = .ok (.aload_n 0, 1) := by decide +kernel
theorem dM_declaration_33 : decode cM_declaration 33 = .ok (.getfield 75, 3) := by decide +kernel
theorem dM_declaration_36 : decode cM_declaration 36 = .ok (.bipush 20, 2) := by decide +kernel
theorem dM_declaration_38 : decode cM_declaration 38 = .ok (.if_icmp .ne 9, 3) := by decide +kernel
theorem dM_declaration_41 : decode cM_declaration 41 = .ok (.aload_n 0, 1) := by decide +kernel
theorem dM_declaration_42 : decode cM_declaration 42 = .ok (.iconst 2, 1) := by decide +kernel
theorem dM_declaration_43 : decode cM_declaration 43 = .ok (.invokevirtual 82, 3) := by decide +kernel
theorem dM_declaration_46 : decode cM_declaration 46 = .ok (.ireturn, 1) := by decide +kernel
theorem dM_declaration_47 : decode cM_declaration 47 = .ok (.aload_n 0, 1) := by decide +kernel
theorem dM_declaration_48 : decode cM_declaration 48 = .ok (.iconst 0, 1) := by decide +kernel
theorem dM_declaration_49 : decode cM_declaration 49 = .ok (.putfield 69, 3) := by decide +kernel
theorem dM_declaration_52 : decode cM_declaration 52 = .ok (.aload_n 0, 1) := by decide +kernel
theorem dM_declaration_53 : decode cM_declaration 53 = .ok (.getfield 13, 3) := by decide +kernel
theorem dM_declaration_56 : decode cM_declaration 56 = .ok (.aload_n 0, 1) := by decide +kernel
theorem dM_declaration_57 : decode cM_declaration 57 = .ok (.getfield 75, 3) := by decide +kernel
theorem dM_declaration_60 : decode cM_declaration 60 = .ok (.iload_n 1, 1) := by decide +kernel
theorem dM_declaration_61 : decode cM_declaration 61 = .ok (.iastore, 1) := by decide +kernel
theorem dM_declaration_62 : decode cM_declaration 62 = .ok (.aload_n 0, 1) := by decide +kernel
theorem dM_declaration_63 : decode cM_declaration 63 = .ok (.getfield 16, 3) := by decide +kernel
theorem dM_declaration_66 : decode cM_declaration 66 = .ok (.aload_n 0, 1) := by decide +kernel
theorem dM_declaration_67 : decode cM_declaration 67 = .ok (.getfield 75, 3) := by decide +kernel
theorem dM_declaration_70 : decode cM_declaration 70 = .ok (.iload_n 2, 1) := by decide +kernel
theorem dM_declaration_71 : decode cM_declaration 71 = .ok (.iastore, 1) := by decide +kernel
theorem dM_declaration_72 : decode cM_declaration 72 = .ok (.aload_n 0, 1) := by decide +kernel
theorem dM_declaration_73 : decode cM_declaration 73 = .ok (.getfield 31, 3) := by decide +kernel
theorem dM_declaration_76 : decode cM_declaration 76 = .ok (.aload_n 0, 1) := by decide +kernel
theorem dM_declaration_77 : decode cM_declaration 77 = .ok (.getfield 75, 3) := by decide +kernel
theorem dM_declaration_80 : decode cM_declaration 80 = .ok (.iconst (-1), 1) := by decide +kernel
theorem dM_declaration_81 : decode cM_declaration 81 = .ok (.iastore, 1) := by decide +kernel
theorem dM_declaration_82 : decode cM_declaration 82 = .ok (.aload_n 0, 1) := by decide +kernel
theorem dM_declaration_83 : decode cM_declaration 83 = .ok (.dup, 1) := by decide +kernel
theorem dM_declaration_84 : decode cM_declaration 84 = .ok (.getfield 75, 3) := by decide +kernel
theorem dM_declaration_87 : decode cM_declaration 87 = .ok (.iconst 1, 1) := by decide +kernel
theorem dM_declaration_88 : decode cM_declaration 88 = .ok (.iadd, 1) := by decide +kernel
theorem dM_declaration_89 : decode cM_declaration 89 = .ok (.putfield 75, 3) := by decide +kernel
theorem dM_declaration_92 : decode cM_declaration 92 = .ok (.aload_n 0, 1) := by decide +kernel
theorem dM_declaration_93 : decode cM_declaration 93 = .ok (.getfield 75, 3) := by decide +kernel
theorem dM_declaration_96 : decode cM_declaration 96 = .ok (.iconst 1, 1) := by decide +kernel
theorem dM_declaration_97 : decode cM_declaration 97 = .ok (.isub, 1) := by decide +kernel
theorem dM_declaration_98 : decode cM_declaration 98 = .ok (.ireturn, 1) := by decide +kernel
theorem dM_waiting_0 : decode cM_waiting 0 = .ok (.iconst 0, 1) := by decide +kernel
theorem dM_waiting_1 : decode cM_waiting 1 = .ok (.istore_n 1, 1) := by decide +kernel
theorem dM_waiting_2 : decode cM_waiting 2 = .ok (.iconst 0, 1) := by decide +kernel
theorem dM_waiting_3 : decode cM_waiting 3 = .ok (.istore_n 2, 1) := by decide +kernel
theorem dM_waiting_4 : decode cM_waiting 4 = .ok (.iload_n 2, 1) := by decide +kernel
theorem dM_waiting_5 : decode cM_waiting 5 = .ok (.aload_n 0, 1) := by decide +kernel
theorem dM_waiting_6 : decode cM_waiting 6 = .ok (.getfield 90, 3) := by decide +kernel
theorem dM_waiting_9 : decode cM_waiting 9 = .ok (.if_icmp .ge 26, 3) := by decide +kernel
theorem dM_waiting_12 : decode cM_waiting 12 = .ok (.iload_n 1, 1) := by decide +kernel
theorem dM_waiting_13 : decode cM_waiting 13 = .ok (.aload_n 0, 1) := by decide +kernel
theorem dM_waiting_14 : decode cM_waiting 14 = .ok (.getfield 49, 3) := by decide +kernel
theorem dM_waiting_17 : decode cM_waiting 17 = .ok (.iload_n 2, 1) := by decide +kernel
theorem dM_waiting_18 : decode cM_waiting 18 = .ok (.baload, 1) := by decide +kernel
theorem dM_waiting_19 : decode cM_waiting 19 = .ok (.ifCond .eq 7, 3) := by decide +kernel
theorem dM_waiting_22 : decode cM_waiting 22 = .ok (.iconst 1, 1) := by decide +kernel
theorem dM_waiting_23 : decode cM_waiting 23 = .ok (.goto 4, 3) := by decide +kernel
theorem dM_waiting_26 : decode cM_waiting 26 = .ok (.iconst 0, 1) := by decide +kernel
theorem dM_waiting_27 : decode cM_waiting 27 = .ok (.iadd, 1) := by decide +kernel
theorem dM_waiting_28 : decode cM_waiting 28 = .ok (.istore_n 1, 1) := by decide +kernel
theorem dM_waiting_29 : decode cM_waiting 29 = .ok (.iinc 2 1, 3) := by decide +kernel
theorem dM_waiting_32 : decode cM_waiting 32 = .ok (.goto (-28), 3) := by decide +kernel
theorem dM_waiting_35 : decode cM_waiting 35 = .ok (.iload_n 1, 1) := by decide +kernel
theorem dM_waiting_36 : decode cM_waiting 36 = .ok (.ireturn, 1) := by decide +kernel
theorem dM_event_0 : decode cM_event 0 = .ok (.aload_n 0, 1) := by decide +kernel
theorem dM_event_1 : decode cM_event 1 = .ok (.iload_n 1, 1) := by decide +kernel
theorem dM_event_2 : decode cM_event 2 = .ok (.invokevirtual 93, 3) := by decide +kernel
theorem dM_event_5 : decode cM_event 5 = .ok (.ifCond .eq 37, 3) := by decide +kernel
theorem dM_event_8 : decode cM_event 8 = .ok (.iload_n 2, 1) := by decide +kernel
theorem dM_event_9 : decode cM_event 9 = .ok (.iconst 0, 1) := by decide +kernel
theorem dM_event_10 : decode cM_event 10 = .ok (.bipush 9, 2) := by decide +kernel
theorem dM_event_12 : decode cM_event 12 = .ok (.invokestatic 78, 3) := by decide +kernel
theorem dM_event_15 : decode cM_event 15 = .ok (.ifCond .eq 27, 3) := by decide +kernel
theorem dM_event_18 : decode cM_event 18 = .ok (.aload_n 0, 1) := by decide +kernel
theorem dM_event_19 : decode cM_event 19 = .ok (.iload_n 3, 1) := by decide +kernel
theorem dM_event_20 : decode cM_event 20 = .ok (.invokevirtual 86, 3) := by decide +kernel
theorem dM_event_23 : decode cM_event 23 = .ok (.ifCond .eq 19, 3) := by decide +kernel
theorem dM_event_26 : decode cM_event 26 = .ok (.iload 4, 2) := by decide +kernel
theorem dM_event_28 : decode cM_event 28 = .ok (.aload_n 0, 1) := by decide +kernel
theorem dM_event_29 : decode cM_event 29 = .ok (.getfield 96, 3) := by decide +kernel
theorem dM_event_32 : decode cM_event 32 = .ok (.if_icmp .le 10, 3) := by decide +kernel
theorem dM_event_35 : decode cM_event 35 = .ok (.iload 4, 2) := by decide +kernel
theorem dM_event_37 : decode cM_event 37 = .ok (.ldc 99, 2) := by decide +kernel
theorem dM_event_39 : decode cM_event 39 = .ok (.if_icmp .le 9, 3) := by decide +kernel
theorem dM_event_42 : decode cM_event 42 = .ok (.aload_n 0, 1) := by decide +kernel
theorem dM_event_43 : decode cM_event 43 = .ok (.iconst 1, 1) := by decide +kernel
theorem dM_event_44 : decode cM_event 44 = .ok (.invokevirtual 82, 3) := by decide +kernel
theorem dM_event_47 : decode cM_event 47 = .ok (.ireturn, 1) := by decide +kernel
theorem dM_event_48 : decode cM_event 48 = .ok (.aload_n 0, 1) := by decide +kernel
theorem dM_event_49 : decode cM_event 49 = .ok (.getfield 90, 3) := by decide +kernel
theorem dM_event_52 : decode cM_event 52 = .ok (.bipush 120, 2) := by decide +kernel
theorem dM_event_54 : decode cM_event 54 = .ok (.if_icmp .eq 12, 3) := by decide +kernel
theorem dM_event_57 : decode cM_event 57 = .ok (.aload_n 0, 1) := by decide +kernel
theorem dM_event_58 : decode cM_event 58 = .ok (.invokevirtual 100, 3) := by decide +kernel
theorem dM_event_61 : decode cM_event 61 = .ok (.bipush 20, 2) := by decide +kernel
theorem dM_event_63 : decode cM_event 63 = .ok (.if_icmp .ne 9, 3) := by decide +kernel
theorem dM_event_66 : decode cM_event 66 = .ok (.aload_n 0, 1) := by decide +kernel
theorem dM_event_67 : decode cM_event 67 = .ok (.iconst 2, 1) := by decide +kernel
theorem dM_event_68 : decode cM_event 68 = .ok (.invokevirtual 82, 3) := by decide +kernel
theorem dM_event_71 : decode cM_event 71 = .ok (.ireturn, 1) := by decide +kernel
theorem dM_event_72 : decode cM_event 72 = .ok (.aload_n 0, 1) := by decide +kernel
theorem dM_event_73 : decode cM_event 73 = .ok (.iconst 0, 1) := by decide +kernel
theorem dM_event_74 : decode cM_event 74 = .ok (.putfield 69, 3) := by decide +kernel
theorem dM_event_77 : decode cM_event 77 = .ok (.aload_n 0, 1) := by decide +kernel
theorem dM_event_78 : decode cM_event 78 = .ok (.getfield 37, 3) := by decide +kernel
theorem dM_event_81 : decode cM_event 81 = .ok (.aload_n 0, 1) := by decide +kernel
theorem dM_event_82 : decode cM_event 82 = .ok (.getfield 90, 3) := by decide +kernel
theorem dM_event_85 : decode cM_event 85 = .ok (.iload_n 1, 1) := by decide +kernel
theorem dM_event_86 : decode cM_event 86 = .ok (.iastore, 1) := by decide +kernel
theorem dM_event_87 : decode cM_event 87 = .ok (.aload_n 0, 1) := by decide +kernel
theorem dM_event_88 : decode cM_event 88 = .ok (.getfield 40, 3) := by decide +kernel
theorem dM_event_91 : decode cM_event 91 = .ok (.aload_n 0, 1) := by decide +kernel
theorem dM_event_92 : decode cM_event 92 = .ok (.getfield 90, 3) := by decide +kernel
theorem dM_event_95 : decode cM_event 95 = .ok (.iload_n 2, 1) := by decide +kernel
theorem dM_event_96 : decode cM_event 96 = .ok (.iastore, 1) := by decide +kernel
theorem dM_event_97 : decode cM_event 97 = .ok (.aload_n 0, 1) := by decide +kernel
theorem dM_event_98 : decode cM_event 98 = .ok (.getfield 43, 3) := by decide +kernel
theorem dM_event_101 : decode cM_event 101 = .ok (.aload_n 0, 1) := by decide +kernel
theorem dM_event_102 : decode cM_event 102 = .ok (.getfield 90, 3) := by decide +kernel
theorem dM_event_105 : decode cM_event 105 = .ok (.iload_n 3, 1) := by decide +kernel
theorem dM_event_106 : decode cM_event 106 = .ok (.iastore, 1) := by decide +kernel
theorem dM_event_107 : decode cM_event 107 = .ok (.aload_n 0, 1) := by decide +kernel
theorem dM_event_108 : decode cM_event 108 = .ok (.getfield 46, 3) := by decide +kernel
theorem dM_event_111 : decode cM_event 111 = .ok (.aload_n 0, 1) := by decide +kernel
theorem dM_event_112 : decode cM_event 112 = .ok (.getfield 90, 3) := by decide +kernel
theorem dM_event_115 : decode cM_event 115 = .ok (.iload 4, 2) := by decide +kernel
theorem dM_event_117 : decode cM_event 117 = .ok (.iastore, 1) := by decide +kernel
theorem dM_event_118 : decode cM_event 118 = .ok (.aload_n 0, 1) := by decide +kernel
theorem dM_event_119 : decode cM_event 119 = .ok (.getfield 49, 3) := by decide +kernel
theorem dM_event_122 : decode cM_event 122 = .ok (.aload_n 0, 1) := by decide +kernel
theorem dM_event_123 : decode cM_event 123 = .ok (.getfield 90, 3) := by decide +kernel
theorem dM_event_126 : decode cM_event 126 = .ok (.iconst 1, 1) := by decide +kernel
theorem dM_event_127 : decode cM_event 127 = .ok (.bastore, 1) := by decide +kernel
theorem dM_event_128 : decode cM_event 128 = .ok (.aload_n 0, 1) := by decide +kernel
theorem dM_event_129 : decode cM_event 129 = .ok (.getfield 53, 3) := by decide +kernel
theorem dM_event_132 : decode cM_event 132 = .ok (.aload_n 0, 1) := by decide +kernel
theorem dM_event_133 : decode cM_event 133 = .ok (.getfield 90, 3) := by decide +kernel
theorem dM_event_136 : decode cM_event 136 = .ok (.iconst (-1), 1) := by decide +kernel
theorem dM_event_137 : decode cM_event 137 = .ok (.iastore, 1) := by decide +kernel
theorem dM_event_138 : decode cM_event 138 = .ok (.aload_n 0, 1) := by decide +kernel
theorem dM_event_139 : decode cM_event 139 = .ok (.dup, 1) := by decide +kernel
theorem dM_event_140 : decode cM_event 140 = .ok (.getfield 90, 3) := by decide +kernel
theorem dM_event_143 : decode cM_event 143 = .ok (.iconst 1, 1) := by decide +kernel
theorem dM_event_144 : decode cM_event 144 = .ok (.iadd, 1) := by decide +kernel
theorem dM_event_145 : decode cM_event 145 = .ok (.putfield 90, 3) := by decide +kernel
theorem dM_event_148 : decode cM_event 148 = .ok (.aload_n 0, 1) := by decide +kernel
theorem dM_event_149 : decode cM_event 149 = .ok (.getfield 90, 3) := by decide +kernel
theorem dM_event_152 : decode cM_event 152 = .ok (.iconst 1, 1) := by decide +kernel
theorem dM_event_153 : decode cM_event 153 = .ok (.isub, 1) := by decide +kernel
theorem dM_event_154 : decode cM_event 154 = .ok (.ireturn, 1) := by decide +kernel
theorem dM_isOfficers_0 : decode cM_isOfficers 0 = .ok (.iload_n 0, 1) := by decide +kernel
theorem dM_isOfficers_1 : decode cM_isOfficers 1 = .ok (.iconst 1, 1) := by decide +kernel
theorem dM_isOfficers_2 : decode cM_isOfficers 2 = .ok (.if_icmp .le 9, 3) := by decide +kernel
theorem dM_isOfficers_5 : decode cM_isOfficers 5 = .ok (.iload_n 0, 1) := by decide +kernel
theorem dM_isOfficers_6 : decode cM_isOfficers 6 = .ok (.bipush 6, 2) := by decide +kernel
theorem dM_isOfficers_8 : decode cM_isOfficers 8 = .ok (.if_icmp .lt 9, 3) := by decide +kernel
theorem dM_isOfficers_11 : decode cM_isOfficers 11 = .ok (.iload_n 0, 1) := by decide +kernel
theorem dM_isOfficers_12 : decode cM_isOfficers 12 = .ok (.bipush 8, 2) := by decide +kernel
theorem dM_isOfficers_14 : decode cM_isOfficers 14 = .ok (.if_icmp .ne 7, 3) := by decide +kernel
theorem dM_isOfficers_17 : decode cM_isOfficers 17 = .ok (.iconst 1, 1) := by decide +kernel
theorem dM_isOfficers_18 : decode cM_isOfficers 18 = .ok (.goto 4, 3) := by decide +kernel
theorem dM_isOfficers_21 : decode cM_isOfficers 21 = .ok (.iconst 0, 1) := by decide +kernel
theorem dM_isOfficers_22 : decode cM_isOfficers 22 = .ok (.ireturn, 1) := by decide +kernel
theorem dM_may_0 : decode cM_may 0 = .ok (.aload_n 0, 1) := by decide +kernel
theorem dM_may_1 : decode cM_may 1 = .ok (.getfield 43, 3) := by decide +kernel
theorem dM_may_4 : decode cM_may 4 = .ok (.iload_n 1, 1) := by decide +kernel
theorem dM_may_5 : decode cM_may 5 = .ok (.iaload, 1) := by decide +kernel
theorem dM_may_6 : decode cM_may 6 = .ok (.istore_n 2, 1) := by decide +kernel
theorem dM_may_7 : decode cM_may 7 = .ok (.aload_n 0, 1) := by decide +kernel
theorem dM_may_8 : decode cM_may 8 = .ok (.getfield 40, 3) := by decide +kernel
theorem dM_may_11 : decode cM_may 11 = .ok (.iload_n 1, 1) := by decide +kernel
theorem dM_may_12 : decode cM_may 12 = .ok (.iaload, 1) := by decide +kernel
theorem dM_may_13 : decode cM_may 13 = .ok (.istore_n 3, 1) := by decide +kernel
theorem dM_may_14 : decode cM_may 14 = .ok (.iload_n 3, 1) := by decide +kernel
theorem dM_may_15 : decode cM_may 15 = .ok (.invokestatic 104, 3) := by decide +kernel
theorem dM_may_18 : decode cM_may 18 = .ok (.ifCond .eq 19, 3) := by decide +kernel
theorem dM_may_21 : decode cM_may 21 = .ok (.aload_n 0, 1) := by decide +kernel
theorem dM_may_22 : decode cM_may 22 = .ok (.getfield 7, 3) := by decide +kernel
theorem dM_may_25 : decode cM_may 25 = .ok (.iload_n 2, 1) := by decide +kernel
theorem dM_may_26 : decode cM_may 26 = .ok (.iaload, 1) := by decide +kernel
theorem dM_may_27 : decode cM_may 27 = .ok (.iconst 1, 1) := by decide +kernel
theorem dM_may_28 : decode cM_may 28 = .ok (.if_icmp .ne 7, 3) := by decide +kernel
theorem dM_may_31 : decode cM_may 31 = .ok (.iconst 1, 1) := by decide +kernel
theorem dM_may_32 : decode cM_may 32 = .ok (.goto 4, 3) := by decide +kernel
theorem dM_may_35 : decode cM_may 35 = .ok (.iconst 0, 1) := by decide +kernel
theorem dM_may_36 : decode cM_may 36 = .ok (.ireturn, 1) := by decide +kernel
theorem dM_may_37 : decode cM_may 37 = .ok (.iload_n 3, 1) := by decide +kernel
theorem dM_may_38 : decode cM_may 38 = .ok (.iconst 1, 1) := by decide +kernel
theorem dM_may_39 : decode cM_may 39 = .ok (.if_icmp .ne 21, 3) := by decide +kernel
theorem dM_may_42 : decode cM_may 42 = .ok (.aload_n 0, 1) := by decide +kernel
theorem dM_may_43 : decode cM_may 43 = .ok (.getfield 7, 3) := by decide +kernel
theorem dM_may_46 : decode cM_may 46 = .ok (.iload_n 2, 1) := by decide +kernel
theorem dM_may_47 : decode cM_may 47 = .ok (.iaload, 1) := by decide +kernel
theorem dM_may_48 : decode cM_may 48 = .ok (.iconst 1, 1) := by decide +kernel
theorem dM_may_49 : decode cM_may 49 = .ok (.if_icmp .eq 7, 3) := by decide +kernel
theorem dM_may_52 : decode cM_may 52 = .ok (.iconst 1, 1) := by decide +kernel
theorem dM_may_53 : decode cM_may 53 = .ok (.goto 51, 3) := by decide +kernel
theorem dM_may_56 : decode cM_may 56 = .ok (.iconst 0, 1) := by decide +kernel
theorem dM_may_57 : decode cM_may 57 = .ok (.goto 47, 3) := by decide +kernel
theorem dM_may_60 : decode cM_may 60 = .ok (.iload_n 3, 1) := by decide +kernel
theorem dM_may_61 : decode cM_may 61 = .ok (.bipush 7, 2) := by decide +kernel
theorem dM_may_63 : decode cM_may 63 = .ok (.if_icmp .ne 21, 3) := by decide +kernel
theorem dM_may_66 : decode cM_may 66 = .ok (.aload_n 0, 1) := by decide +kernel
theorem dM_may_67 : decode cM_may 67 = .ok (.getfield 7, 3) := by decide +kernel
theorem dM_may_70 : decode cM_may 70 = .ok (.iload_n 2, 1) := by decide +kernel
theorem dM_may_71 : decode cM_may 71 = .ok (.iaload, 1) := by decide +kernel
theorem dM_may_72 : decode cM_may 72 = .ok (.iconst 2, 1) := by decide +kernel
theorem dM_may_73 : decode cM_may 73 = .ok (.if_icmp .ne 7, 3) := by decide +kernel
theorem dM_may_76 : decode cM_may 76 = .ok (.iconst 1, 1) := by decide +kernel
theorem dM_may_77 : decode cM_may 77 = .ok (.goto 27, 3) := by decide +kernel
theorem dM_may_80 : decode cM_may 80 = .ok (.iconst 0, 1) := by decide +kernel
theorem dM_may_81 : decode cM_may 81 = .ok (.goto 23, 3) := by decide +kernel
theorem dM_may_84 : decode cM_may 84 = .ok (.iload_n 2, 1) := by decide +kernel
theorem dM_may_85 : decode cM_may 85 = .ok (.aload_n 0, 1) := by decide +kernel
theorem dM_may_86 : decode cM_may 86 = .ok (.getfield 16, 3) := by decide +kernel
theorem dM_may_89 : decode cM_may 89 = .ok (.aload_n 0, 1) := by decide +kernel
theorem dM_may_90 : decode cM_may 90 = .ok (.getfield 37, 3) := by decide +kernel
theorem dM_may_93 : decode cM_may 93 = .ok (.iload_n 1, 1) := by decide +kernel
theorem dM_may_94 : decode cM_may 94 = .ok (.iaload, 1) := by decide +kernel
theorem dM_may_95 : decode cM_may 95 = .ok (.iaload, 1) := by decide +kernel
theorem dM_may_96 : decode cM_may 96 = .ok (.if_icmp .ne 7, 3) := by decide +kernel
theorem dM_may_99 : decode cM_may 99 = .ok (.iconst 1, 1) := by decide +kernel
theorem dM_may_100 : decode cM_may 100 = .ok (.goto 4, 3) := by decide +kernel
theorem dM_may_103 : decode cM_may 103 = .ok (.iconst 0, 1) := by decide +kernel
theorem dM_may_104 : decode cM_may 104 = .ok (.ireturn, 1) := by decide +kernel
theorem dM_fits_0 : decode cM_fits 0 = .ok (.aload_n 0, 1) := by decide +kernel
theorem dM_fits_1 : decode cM_fits 1 = .ok (.getfield 19, 3) := by decide +kernel
theorem dM_fits_4 : decode cM_fits 4 = .ok (.iload_n 1, 1) := by decide +kernel
theorem dM_fits_5 : decode cM_fits 5 = .ok (.iaload, 1) := by decide +kernel
theorem dM_fits_6 : decode cM_fits 6 = .ok (.istore_n 3, 1) := by decide +kernel
theorem dM_fits_7 : decode cM_fits 7 = .ok (.iload_n 2, 1) := by decide +kernel
theorem dM_fits_8 : decode cM_fits 8 = .ok (.tableswitch 151 0 8 #[52, 62, 73, 84, 95, 95, 151, 106, 126], 52) := by decide +kernel
theorem dM_fits_60 : decode cM_fits 60 = .ok (.iload_n 3, 1) := by decide +kernel
theorem dM_fits_61 : decode cM_fits 61 = .ok (.ifCond .ne 7, 3) := by decide +kernel
theorem dM_fits_64 : decode cM_fits 64 = .ok (.iconst 1, 1) := by decide +kernel
theorem dM_fits_65 : decode cM_fits 65 = .ok (.goto 4, 3) := by decide +kernel
theorem dM_fits_68 : decode cM_fits 68 = .ok (.iconst 0, 1) := by decide +kernel
theorem dM_fits_69 : decode cM_fits 69 = .ok (.ireturn, 1) := by decide +kernel
theorem dM_fits_70 : decode cM_fits 70 = .ok (.iload_n 3, 1) := by decide +kernel
theorem dM_fits_71 : decode cM_fits 71 = .ok (.iconst 3, 1) := by decide +kernel
theorem dM_fits_72 : decode cM_fits 72 = .ok (.if_icmp .ge 7, 3) := by decide +kernel
theorem dM_fits_75 : decode cM_fits 75 = .ok (.iconst 1, 1) := by decide +kernel
theorem dM_fits_76 : decode cM_fits 76 = .ok (.goto 4, 3) := by decide +kernel
theorem dM_fits_79 : decode cM_fits 79 = .ok (.iconst 0, 1) := by decide +kernel
theorem dM_fits_80 : decode cM_fits 80 = .ok (.ireturn, 1) := by decide +kernel
theorem dM_fits_81 : decode cM_fits 81 = .ok (.iload_n 3, 1) := by decide +kernel
theorem dM_fits_82 : decode cM_fits 82 = .ok (.iconst 1, 1) := by decide +kernel
theorem dM_fits_83 : decode cM_fits 83 = .ok (.if_icmp .ne 7, 3) := by decide +kernel
theorem dM_fits_86 : decode cM_fits 86 = .ok (.iconst 1, 1) := by decide +kernel
theorem dM_fits_87 : decode cM_fits 87 = .ok (.goto 4, 3) := by decide +kernel
theorem dM_fits_90 : decode cM_fits 90 = .ok (.iconst 0, 1) := by decide +kernel
theorem dM_fits_91 : decode cM_fits 91 = .ok (.ireturn, 1) := by decide +kernel
theorem dM_fits_92 : decode cM_fits 92 = .ok (.iload_n 3, 1) := by decide +kernel
theorem dM_fits_93 : decode cM_fits 93 = .ok (.iconst 2, 1) := by decide +kernel
theorem dM_fits_94 : decode cM_fits 94 = .ok (.if_icmp .ne 7, 3) := by decide +kernel
theorem dM_fits_97 : decode cM_fits 97 = .ok (.iconst 1, 1) := by decide +kernel
theorem dM_fits_98 : decode cM_fits 98 = .ok (.goto 4, 3) := by decide +kernel
theorem dM_fits_101 : decode cM_fits 101 = .ok (.iconst 0, 1) := by decide +kernel
theorem dM_fits_102 : decode cM_fits 102 = .ok (.ireturn, 1) := by decide +kernel
theorem dM_fits_103 : decode cM_fits 103 = .ok (.iload_n 3, 1) := by decide +kernel
theorem dM_fits_104 : decode cM_fits 104 = .ok (.iconst 3, 1) := by decide +kernel
theorem dM_fits_105 : decode cM_fits 105 = .ok (.if_icmp .ne 7, 3) := by decide +kernel
theorem dM_fits_108 : decode cM_fits 108 = .ok (.iconst 1, 1) := by decide +kernel
theorem dM_fits_109 : decode cM_fits 109 = .ok (.goto 4, 3) := by decide +kernel
theorem dM_fits_112 : decode cM_fits 112 = .ok (.iconst 0, 1) := by decide +kernel
theorem dM_fits_113 : decode cM_fits 113 = .ok (.ireturn, 1) := by decide +kernel
theorem dM_fits_114 : decode cM_fits 114 = .ok (.iload_n 3, 1) := by decide +kernel
theorem dM_fits_115 : decode cM_fits 115 = .ok (.iconst 4, 1) := by decide +kernel
theorem dM_fits_116 : decode cM_fits 116 = .ok (.if_icmp .ne 16, 3) := by decide +kernel
theorem dM_fits_119 : decode cM_fits 119 = .ok (.aload_n 0, 1) := by decide +kernel
theorem dM_fits_120 : decode cM_fits 120 = .ok (.getfield 13, 3) := by decide +kernel
theorem dM_fits_123 : decode cM_fits 123 = .ok (.iload_n 1, 1) := by decide +kernel
theorem dM_fits_124 : decode cM_fits 124 = .ok (.iaload, 1) := by decide +kernel
theorem dM_fits_125 : decode cM_fits 125 = .ok (.ifCond .le 7, 3) := by decide +kernel
theorem dM_fits_128 : decode cM_fits 128 = .ok (.iconst 1, 1) := by decide +kernel
theorem dM_fits_129 : decode cM_fits 129 = .ok (.goto 4, 3) := by decide +kernel
theorem dM_fits_132 : decode cM_fits 132 = .ok (.iconst 0, 1) := by decide +kernel
theorem dM_fits_133 : decode cM_fits 133 = .ok (.ireturn, 1) := by decide +kernel
theorem dM_fits_134 : decode cM_fits 134 = .ok (.iload_n 3, 1) := by decide +kernel
theorem dM_fits_135 : decode cM_fits 135 = .ok (.iconst 4, 1) := by decide +kernel
theorem dM_fits_136 : decode cM_fits 136 = .ok (.if_icmp .ne 12, 3) := by decide +kernel
theorem dM_fits_139 : decode cM_fits 139 = .ok (.aload_n 0, 1) := by decide +kernel
theorem dM_fits_140 : decode cM_fits 140 = .ok (.getfield 13, 3) := by decide +kernel
theorem dM_fits_143 : decode cM_fits 143 = .ok (.iload_n 1, 1) := by decide +kernel
theorem dM_fits_144 : decode cM_fits 144 = .ok (.iaload, 1) := by decide +kernel
theorem dM_fits_145 : decode cM_fits 145 = .ok (.ifCond .eq 8, 3) := by decide +kernel
theorem dM_fits_148 : decode cM_fits 148 = .ok (.iload_n 3, 1) := by decide +kernel
theorem dM_fits_149 : decode cM_fits 149 = .ok (.iconst 5, 1) := by decide +kernel
theorem dM_fits_150 : decode cM_fits 150 = .ok (.if_icmp .ne 7, 3) := by decide +kernel
theorem dM_fits_153 : decode cM_fits 153 = .ok (.iconst 1, 1) := by decide +kernel
theorem dM_fits_154 : decode cM_fits 154 = .ok (.goto 4, 3) := by decide +kernel
theorem dM_fits_157 : decode cM_fits 157 = .ok (.iconst 0, 1) := by decide +kernel
theorem dM_fits_158 : decode cM_fits 158 = .ok (.ireturn, 1) := by decide +kernel
theorem dM_fits_159 : decode cM_fits 159 = .ok (.iload_n 3, 1) := by decide +kernel
theorem dM_fits_160 : decode cM_fits 160 = .ok (.iconst 2, 1) := by decide +kernel
theorem dM_fits_161 : decode cM_fits 161 = .ok (.if_icmp .eq 8, 3) := by decide +kernel
theorem dM_fits_164 : decode cM_fits 164 = .ok (.iload_n 3, 1) := by decide +kernel
theorem dM_fits_165 : decode cM_fits 165 = .ok (.iconst 3, 1) := by decide +kernel
theorem dM_fits_166 : decode cM_fits 166 = .ok (.if_icmp .ne 7, 3) := by decide +kernel
theorem dM_fits_169 : decode cM_fits 169 = .ok (.iconst 1, 1) := by decide +kernel
theorem dM_fits_170 : decode cM_fits 170 = .ok (.goto 4, 3) := by decide +kernel
theorem dM_fits_173 : decode cM_fits 173 = .ok (.iconst 0, 1) := by decide +kernel
theorem dM_fits_174 : decode cM_fits 174 = .ok (.ireturn, 1) := by decide +kernel
theorem dM_has_0 : decode cM_has 0 = .ok (.aload_n 0, 1) := by decide +kernel
theorem dM_has_1 : decode cM_has 1 = .ok (.getfield 22, 3) := by decide +kernel
theorem dM_has_4 : decode cM_has 4 = .ok (.iload_n 1, 1) := by decide +kernel
theorem dM_has_5 : decode cM_has 5 = .ok (.iaload, 1) := by decide +kernel
theorem dM_has_6 : decode cM_has 6 = .ok (.iload_n 2, 1) := by decide +kernel
theorem dM_has_7 : decode cM_has 7 = .ok (.iand, 1) := by decide +kernel
theorem dM_has_8 : decode cM_has 8 = .ok (.ifCond .le 7, 3) := by decide +kernel
theorem dM_has_11 : decode cM_has 11 = .ok (.iconst 1, 1) := by decide +kernel
theorem dM_has_12 : decode cM_has 12 = .ok (.goto 4, 3) := by decide +kernel
theorem dM_has_15 : decode cM_has 15 = .ok (.iconst 0, 1) := by decide +kernel
theorem dM_has_16 : decode cM_has 16 = .ok (.ireturn, 1) := by decide +kernel
theorem dM_isMarked_0 : decode cM_isMarked 0 = .ok (.iload_n 2, 1) := by decide +kernel
theorem dM_isMarked_1 : decode cM_isMarked 1 = .ok (.iconst 1, 1) := by decide +kernel
theorem dM_isMarked_2 : decode cM_isMarked 2 = .ok (.if_icmp .ne 20, 3) := by decide +kernel
theorem dM_isMarked_5 : decode cM_isMarked 5 = .ok (.aload_n 0, 1) := by decide +kernel
theorem dM_isMarked_6 : decode cM_isMarked 6 = .ok (.iload_n 1, 1) := by decide +kernel
theorem dM_isMarked_7 : decode cM_isMarked 7 = .ok (.iconst 1, 1) := by decide +kernel
theorem dM_isMarked_8 : decode cM_isMarked 8 = .ok (.invokevirtual 107, 3) := by decide +kernel
theorem dM_isMarked_11 : decode cM_isMarked 11 = .ok (.ifCond .ne 7, 3) := by decide +kernel
theorem dM_isMarked_14 : decode cM_isMarked 14 = .ok (.iconst 1, 1) := by decide +kernel
theorem dM_isMarked_15 : decode cM_isMarked 15 = .ok (.goto 82, 3) := by decide +kernel
theorem dM_isMarked_18 : decode cM_isMarked 18 = .ok (.iconst 0, 1) := by decide +kernel
theorem dM_isMarked_19 : decode cM_isMarked 19 = .ok (.goto 78, 3) := by decide +kernel
theorem dM_isMarked_22 : decode cM_isMarked 22 = .ok (.iload_n 2, 1) := by decide +kernel
theorem dM_isMarked_23 : decode cM_isMarked 23 = .ok (.iconst 2, 1) := by decide +kernel
theorem dM_isMarked_24 : decode cM_isMarked 24 = .ok (.if_icmp .ne 30, 3) := by decide +kernel
theorem dM_isMarked_27 : decode cM_isMarked 27 = .ok (.aload_n 0, 1) := by decide +kernel
theorem dM_isMarked_28 : decode cM_isMarked 28 = .ok (.getfield 13, 3) := by decide +kernel
theorem dM_isMarked_31 : decode cM_isMarked 31 = .ok (.iload_n 1, 1) := by decide +kernel
theorem dM_isMarked_32 : decode cM_isMarked 32 = .ok (.iaload, 1) := by decide +kernel
theorem dM_isMarked_33 : decode cM_isMarked 33 = .ok (.iconst 1, 1) := by decide +kernel
theorem dM_isMarked_34 : decode cM_isMarked 34 = .ok (.if_icmp .eq 12, 3) := by decide +kernel
theorem dM_isMarked_37 : decode cM_isMarked 37 = .ok (.aload_n 0, 1) := by decide +kernel
theorem dM_isMarked_38 : decode cM_isMarked 38 = .ok (.iload_n 1, 1) := by decide +kernel
theorem dM_isMarked_39 : decode cM_isMarked 39 = .ok (.iconst 1, 1) := by decide +kernel
theorem dM_isMarked_40 : decode cM_isMarked 40 = .ok (.invokevirtual 107, 3) := by decide +kernel
theorem dM_isMarked_43 : decode cM_isMarked 43 = .ok (.ifCond .eq 7, 3) := by decide +kernel
theorem dM_isMarked_46 : decode cM_isMarked 46 = .ok (.iconst 1, 1) := by decide +kernel
theorem dM_isMarked_47 : decode cM_isMarked 47 = .ok (.goto 50, 3) := by decide +kernel
theorem dM_isMarked_50 : decode cM_isMarked 50 = .ok (.iconst 0, 1) := by decide +kernel
theorem dM_isMarked_51 : decode cM_isMarked 51 = .ok (.goto 46, 3) := by decide +kernel
theorem dM_isMarked_54 : decode cM_isMarked 54 = .ok (.iload_n 2, 1) := by decide +kernel
theorem dM_isMarked_55 : decode cM_isMarked 55 = .ok (.bipush 6, 2) := by decide +kernel
theorem dM_isMarked_57 : decode cM_isMarked 57 = .ok (.if_icmp .ne 20, 3) := by decide +kernel
theorem dM_isMarked_60 : decode cM_isMarked 60 = .ok (.aload_n 0, 1) := by decide +kernel
theorem dM_isMarked_61 : decode cM_isMarked 61 = .ok (.iload_n 1, 1) := by decide +kernel
theorem dM_isMarked_62 : decode cM_isMarked 62 = .ok (.iconst 2, 1) := by decide +kernel
theorem dM_isMarked_63 : decode cM_isMarked 63 = .ok (.invokevirtual 107, 3) := by decide +kernel
theorem dM_isMarked_66 : decode cM_isMarked 66 = .ok (.ifCond .ne 7, 3) := by decide +kernel
theorem dM_isMarked_69 : decode cM_isMarked 69 = .ok (.iconst 1, 1) := by decide +kernel
theorem dM_isMarked_70 : decode cM_isMarked 70 = .ok (.goto 27, 3) := by decide +kernel
theorem dM_isMarked_73 : decode cM_isMarked 73 = .ok (.iconst 0, 1) := by decide +kernel
theorem dM_isMarked_74 : decode cM_isMarked 74 = .ok (.goto 23, 3) := by decide +kernel
theorem dM_isMarked_77 : decode cM_isMarked 77 = .ok (.iload_n 2, 1) := by decide +kernel
theorem dM_isMarked_78 : decode cM_isMarked 78 = .ok (.bipush 9, 2) := by decide +kernel
theorem dM_isMarked_80 : decode cM_isMarked 80 = .ok (.if_icmp .ne 12, 3) := by decide +kernel
theorem dM_isMarked_83 : decode cM_isMarked 83 = .ok (.aload_n 0, 1) := by decide +kernel
theorem dM_isMarked_84 : decode cM_isMarked 84 = .ok (.iload_n 1, 1) := by decide +kernel
theorem dM_isMarked_85 : decode cM_isMarked 85 = .ok (.iconst 4, 1) := by decide +kernel
theorem dM_isMarked_86 : decode cM_isMarked 86 = .ok (.invokevirtual 107, 3) := by decide +kernel
theorem dM_isMarked_89 : decode cM_isMarked 89 = .ok (.ifCond .eq 7, 3) := by decide +kernel
theorem dM_isMarked_92 : decode cM_isMarked 92 = .ok (.iconst 1, 1) := by decide +kernel
theorem dM_isMarked_93 : decode cM_isMarked 93 = .ok (.goto 4, 3) := by decide +kernel
theorem dM_isMarked_96 : decode cM_isMarked 96 = .ok (.iconst 0, 1) := by decide +kernel
theorem dM_isMarked_97 : decode cM_isMarked 97 = .ok (.ireturn, 1) := by decide +kernel
theorem dM_why_0 : decode cM_why 0 = .ok (.aload_n 0, 1) := by decide +kernel
theorem dM_why_1 : decode cM_why 1 = .ok (.getfield 40, 3) := by decide +kernel
theorem dM_why_4 : decode cM_why 4 = .ok (.iload_n 1, 1) := by decide +kernel
theorem dM_why_5 : decode cM_why 5 = .ok (.iaload, 1) := by decide +kernel
theorem dM_why_6 : decode cM_why 6 = .ok (.istore_n 2, 1) := by decide +kernel
theorem dM_why_7 : decode cM_why 7 = .ok (.aload_n 0, 1) := by decide +kernel
theorem dM_why_8 : decode cM_why 8 = .ok (.getfield 46, 3) := by decide +kernel
theorem dM_why_11 : decode cM_why 11 = .ok (.iload_n 1, 1) := by decide +kernel
theorem dM_why_12 : decode cM_why 12 = .ok (.iaload, 1) := by decide +kernel
theorem dM_why_13 : decode cM_why 13 = .ok (.bipush 24, 2) := by decide +kernel
theorem dM_why_15 : decode cM_why 15 = .ok (.irem, 1) := by decide +kernel
theorem dM_why_16 : decode cM_why 16 = .ok (.istore_n 3, 1) := by decide +kernel
theorem dM_why_17 : decode cM_why 17 = .ok (.aload_n 0, 1) := by decide +kernel
theorem dM_why_18 : decode cM_why 18 = .ok (.getfield 66, 3) := by decide +kernel
theorem dM_why_21 : decode cM_why 21 = .ok (.iload_n 2, 1) := by decide +kernel
theorem dM_why_22 : decode cM_why 22 = .ok (.baload, 1) := by decide +kernel
theorem dM_why_23 : decode cM_why 23 = .ok (.ifCond .eq 12, 3) := by decide +kernel
theorem dM_why_26 : decode cM_why 26 = .ok (.aload_n 0, 1) := by decide +kernel
theorem dM_why_27 : decode cM_why 27 = .ok (.getfield 66, 3) := by decide +kernel
theorem dM_why_30 : decode cM_why 30 = .ok (.iload_n 2, 1) := by decide +kernel
theorem dM_why_31 : decode cM_why 31 = .ok (.iconst 0, 1) := by decide +kernel
theorem dM_why_32 : decode cM_why 32 = .ok (.bastore, 1) := by decide +kernel
theorem dM_why_33 : decode cM_why 33 = .ok (.iconst 1, 1) := by decide +kernel
theorem dM_why_34 : decode cM_why 34 = .ok (.ireturn, 1) := by decide +kernel
theorem dM_why_35 : decode cM_why 35 = .ok (.aload_n 0, 1) := by decide +kernel
theorem dM_why_36 : decode cM_why 36 = .ok (.iload_n 1, 1) := by decide +kernel
theorem dM_why_37 : decode cM_why 37 = .ok (.invokevirtual 111, 3) := by decide +kernel
theorem dM_why_40 : decode cM_why 40 = .ok (.ifCond .ne 5, 3) := by decide +kernel
theorem dM_why_43 : decode cM_why 43 = .ok (.iconst 2, 1) := by decide +kernel
theorem dM_why_44 : decode cM_why 44 = .ok (.ireturn, 1) := by decide +kernel
theorem dM_why_45 : decode cM_why 45 = .ok (.iload_n 2, 1) := by decide +kernel
theorem dM_why_46 : decode cM_why 46 = .ok (.invokestatic 104, 3) := by decide +kernel
theorem dM_why_49 : decode cM_why 49 = .ok (.ifCond .eq 21, 3) := by decide +kernel
theorem dM_why_52 : decode cM_why 52 = .ok (.iload_n 3, 1) := by decide +kernel
theorem dM_why_53 : decode cM_why 53 = .ok (.aload_n 0, 1) := by decide +kernel
theorem dM_why_54 : decode cM_why 54 = .ok (.getfield 59, 3) := by decide +kernel
theorem dM_why_57 : decode cM_why 57 = .ok (.if_icmp .lt 11, 3) := by decide +kernel
theorem dM_why_60 : decode cM_why 60 = .ok (.iload_n 3, 1) := by decide +kernel
theorem dM_why_61 : decode cM_why 61 = .ok (.aload_n 0, 1) := by decide +kernel
theorem dM_why_62 : decode cM_why 62 = .ok (.getfield 63, 3) := by decide +kernel
theorem dM_why_65 : decode cM_why 65 = .ok (.if_icmp .lt 5, 3) := by decide +kernel
theorem dM_why_68 : decode cM_why 68 = .ok (.iconst 3, 1) := by decide +kernel
theorem dM_why_69 : decode cM_why 69 = .ok (.ireturn, 1) := by decide +kernel
theorem dM_why_70 : decode cM_why 70 = .ok (.aload_n 0, 1) := by decide +kernel
theorem dM_why_71 : decode cM_why 71 = .ok (.aload_n 0, 1) := by decide +kernel
theorem dM_why_72 : decode cM_why 72 = .ok (.getfield 37, 3) := by decide +kernel
theorem dM_why_75 : decode cM_why 75 = .ok (.iload_n 1, 1) := by decide +kernel
theorem dM_why_76 : decode cM_why 76 = .ok (.iaload, 1) := by decide +kernel
theorem dM_why_77 : decode cM_why 77 = .ok (.iload_n 2, 1) := by decide +kernel
theorem dM_why_78 : decode cM_why 78 = .ok (.invokevirtual 114, 3) := by decide +kernel
theorem dM_why_81 : decode cM_why 81 = .ok (.ifCond .ne 7, 3) := by decide +kernel
theorem dM_why_84 : decode cM_why 84 = .ok (.iconst 4, 1) := by decide +kernel
theorem dM_why_85 : decode cM_why 85 = .ok (.goto 22, 3) := by decide +kernel
theorem dM_why_88 : decode cM_why 88 = .ok (.aload_n 0, 1) := by decide +kernel
theorem dM_why_89 : decode cM_why 89 = .ok (.aload_n 0, 1) := by decide +kernel
theorem dM_why_90 : decode cM_why 90 = .ok (.getfield 37, 3) := by decide +kernel
theorem dM_why_93 : decode cM_why 93 = .ok (.iload_n 1, 1) := by decide +kernel
theorem dM_why_94 : decode cM_why 94 = .ok (.iaload, 1) := by decide +kernel
theorem dM_why_95 : decode cM_why 95 = .ok (.iload_n 2, 1) := by decide +kernel
theorem dM_why_96 : decode cM_why 96 = .ok (.invokevirtual 117, 3) := by decide +kernel
theorem dM_why_99 : decode cM_why 99 = .ok (.ifCond .ne 7, 3) := by decide +kernel
theorem dM_why_102 : decode cM_why 102 = .ok (.iconst 5, 1) := by decide +kernel
theorem dM_why_103 : decode cM_why 103 = .ok (.goto 4, 3) := by decide +kernel
theorem dM_why_106 : decode cM_why 106 = .ok (.iconst 0, 1) := by decide +kernel
theorem dM_why_107 : decode cM_why 107 = .ok (.ireturn, 1) := by decide +kernel
theorem dM_becomes_0 : decode cM_becomes 0 = .ok (.aload_n 0, 1) := by decide +kernel
theorem dM_becomes_1 : decode cM_becomes 1 = .ok (.getfield 19, 3) := by decide +kernel
theorem dM_becomes_4 : decode cM_becomes 4 = .ok (.iload_n 1, 1) := by decide +kernel
theorem dM_becomes_5 : decode cM_becomes 5 = .ok (.iaload, 1) := by decide +kernel
theorem dM_becomes_6 : decode cM_becomes 6 = .ok (.iload_n 2, 1) := by decide +kernel
theorem dM_becomes_7 : decode cM_becomes 7 = .ok (.if_icmp .eq 24, 3) := by decide +kernel
theorem dM_becomes_10 : decode cM_becomes 10 = .ok (.aload_n 0, 1) := by decide +kernel
theorem dM_becomes_11 : decode cM_becomes 11 = .ok (.getfield 19, 3) := by decide +kernel
theorem dM_becomes_14 : decode cM_becomes 14 = .ok (.iload_n 1, 1) := by decide +kernel
theorem dM_becomes_15 : decode cM_becomes 15 = .ok (.iload_n 2, 1) := by decide +kernel
theorem dM_becomes_16 : decode cM_becomes 16 = .ok (.iastore, 1) := by decide +kernel
theorem dM_becomes_17 : decode cM_becomes 17 = .ok (.aload_n 0, 1) := by decide +kernel
theorem dM_becomes_18 : decode cM_becomes 18 = .ok (.getfield 28, 3) := by decide +kernel
theorem dM_becomes_21 : decode cM_becomes 21 = .ok (.iload_n 1, 1) := by decide +kernel
theorem dM_becomes_22 : decode cM_becomes 22 = .ok (.iload_n 3, 1) := by decide +kernel
theorem dM_becomes_23 : decode cM_becomes 23 = .ok (.iastore, 1) := by decide +kernel
theorem dM_becomes_24 : decode cM_becomes 24 = .ok (.aload_n 0, 1) := by decide +kernel
theorem dM_becomes_25 : decode cM_becomes 25 = .ok (.getfield 31, 3) := by decide +kernel
theorem dM_becomes_28 : decode cM_becomes 28 = .ok (.iload_n 1, 1) := by decide +kernel
theorem dM_becomes_29 : decode cM_becomes 29 = .ok (.iconst (-1), 1) := by decide +kernel
theorem dM_becomes_30 : decode cM_becomes 30 = .ok (.iastore, 1) := by decide +kernel
theorem dM_becomes_31 : decode cM_becomes 31 = .ok (.return_, 1) := by decide +kernel
theorem dM_release_0 : decode cM_release 0 = .ok (.aload_n 0, 1) := by decide +kernel
theorem dM_release_1 : decode cM_release 1 = .ok (.getfield 19, 3) := by decide +kernel
theorem dM_release_4 : decode cM_release 4 = .ok (.iload_n 1, 1) := by decide +kernel
theorem dM_release_5 : decode cM_release 5 = .ok (.iaload, 1) := by decide +kernel
theorem dM_release_6 : decode cM_release 6 = .ok (.iconst 2, 1) := by decide +kernel
theorem dM_release_7 : decode cM_release 7 = .ok (.if_icmp .ne 55, 3) := by decide +kernel
theorem dM_release_10 : decode cM_release 10 = .ok (.aload_n 0, 1) := by decide +kernel
theorem dM_release_11 : decode cM_release 11 = .ok (.getfield 25, 3) := by decide +kernel
theorem dM_release_14 : decode cM_release 14 = .ok (.iload_n 1, 1) := by decide +kernel
theorem dM_release_15 : decode cM_release 15 = .ok (.iaload, 1) := by decide +kernel
theorem dM_release_16 : decode cM_release 16 = .ok (.ifCond .ne 46, 3) := by decide +kernel
theorem dM_release_19 : decode cM_release 19 = .ok (.aload_n 0, 1) := by decide +kernel
theorem dM_release_20 : decode cM_release 20 = .ok (.iload_n 1, 1) := by decide +kernel
theorem dM_release_21 : decode cM_release 21 = .ok (.iconst 4, 1) := by decide +kernel
theorem dM_release_22 : decode cM_release 22 = .ok (.invokevirtual 107, 3) := by decide +kernel
theorem dM_release_25 : decode cM_release 25 = .ok (.ifCond .ne 37, 3) := by decide +kernel
theorem dM_release_28 : decode cM_release 28 = .ok (.aload_n 0, 1) := by decide +kernel
theorem dM_release_29 : decode cM_release 29 = .ok (.iload_n 1, 1) := by decide +kernel
theorem dM_release_30 : decode cM_release 30 = .ok (.iconst 1, 1) := by decide +kernel
theorem dM_release_31 : decode cM_release 31 = .ok (.invokevirtual 107, 3) := by decide +kernel
theorem dM_release_34 : decode cM_release 34 = .ok (.ifCond .eq 28, 3) := by decide +kernel
theorem dM_release_37 : decode cM_release 37 = .ok (.aload_n 0, 1) := by decide +kernel
theorem dM_release_38 : decode cM_release 38 = .ok (.getfield 13, 3) := by decide +kernel
theorem dM_release_41 : decode cM_release 41 = .ok (.iload_n 1, 1) := by decide +kernel
theorem dM_release_42 : decode cM_release 42 = .ok (.iaload, 1) := by decide +kernel
theorem dM_release_43 : decode cM_release 43 = .ok (.ifCond .gt 12, 3) := by decide +kernel
theorem dM_release_46 : decode cM_release 46 = .ok (.aload_n 0, 1) := by decide +kernel
theorem dM_release_47 : decode cM_release 47 = .ok (.iload_n 1, 1) := by decide +kernel
theorem dM_release_48 : decode cM_release 48 = .ok (.iconst 2, 1) := by decide +kernel
theorem dM_release_49 : decode cM_release 49 = .ok (.invokevirtual 107, 3) := by decide +kernel
theorem dM_release_52 : decode cM_release 52 = .ok (.ifCond .eq 10, 3) := by decide +kernel
theorem dM_release_55 : decode cM_release 55 = .ok (.aload_n 0, 1) := by decide +kernel
theorem dM_release_56 : decode cM_release 56 = .ok (.iload_n 1, 1) := by decide +kernel
theorem dM_release_57 : decode cM_release 57 = .ok (.iconst 4, 1) := by decide +kernel
theorem dM_release_58 : decode cM_release 58 = .ok (.iload_n 2, 1) := by decide +kernel
theorem dM_release_59 : decode cM_release 59 = .ok (.invokevirtual 120, 3) := by decide +kernel
theorem dM_release_62 : decode cM_release 62 = .ok (.return_, 1) := by decide +kernel
theorem dM_happens_0 : decode cM_happens 0 = .ok (.aload_n 0, 1) := by decide +kernel
theorem dM_happens_1 : decode cM_happens 1 = .ok (.getfield 19, 3) := by decide +kernel
theorem dM_happens_4 : decode cM_happens 4 = .ok (.iload_n 1, 1) := by decide +kernel
theorem dM_happens_5 : decode cM_happens 5 = .ok (.iaload, 1) := by decide +kernel
theorem dM_happens_6 : decode cM_happens 6 = .ok (.istore 4, 2) := by decide +kernel
theorem dM_happens_8 : decode cM_happens 8 = .ok (.aload_n 0, 1) := by decide +kernel
theorem dM_happens_9 : decode cM_happens 9 = .ok (.getfield 22, 3) := by decide +kernel
theorem dM_happens_12 : decode cM_happens 12 = .ok (.iload_n 1, 1) := by decide +kernel
theorem dM_happens_13 : decode cM_happens 13 = .ok (.dup2, 1) := by decide +kernel
theorem dM_happens_14 : decode cM_happens 14 = .ok (.iaload, 1) := by decide +kernel
theorem dM_happens_15 : decode cM_happens 15 = .ok (.iload_n 2, 1) := by decide +kernel
theorem dM_happens_16 : decode cM_happens 16 = .ok (.iconst 1, 1) := by decide +kernel
theorem dM_happens_17 : decode cM_happens 17 = .ok (.if_icmp .ne 7, 3) := by decide +kernel
theorem dM_happens_20 : decode cM_happens 20 = .ok (.iconst 1, 1) := by decide +kernel
theorem dM_happens_21 : decode cM_happens 21 = .ok (.goto 23, 3) := by decide +kernel
theorem dM_happens_24 : decode cM_happens 24 = .ok (.iload_n 2, 1) := by decide +kernel
theorem dM_happens_25 : decode cM_happens 25 = .ok (.bipush 6, 2) := by decide +kernel
theorem dM_happens_27 : decode cM_happens 27 = .ok (.if_icmp .ne 7, 3) := by decide +kernel
theorem dM_happens_30 : decode cM_happens 30 = .ok (.iconst 2, 1) := by decide +kernel
theorem dM_happens_31 : decode cM_happens 31 = .ok (.goto 13, 3) := by decide +kernel
theorem dM_happens_34 : decode cM_happens 34 = .ok (.iload_n 2, 1) := by decide +kernel
theorem dM_happens_35 : decode cM_happens 35 = .ok (.iconst 5, 1) := by decide +kernel
theorem dM_happens_36 : decode cM_happens 36 = .ok (.if_icmp .ne 7, 3) := by decide +kernel
theorem dM_happens_39 : decode cM_happens 39 = .ok (.iconst 4, 1) := by decide +kernel
theorem dM_happens_40 : decode cM_happens 40 = .ok (.goto 4, 3) := by decide +kernel
theorem dM_happens_43 : decode cM_happens 43 = .ok (.iconst 0, 1) := by decide +kernel
theorem dM_happens_44 : decode cM_happens 44 = .ok (.ior, 1) := by decide +kernel
theorem dM_happens_45 : decode cM_happens 45 = .ok (.iastore, 1) := by decide +kernel
theorem dM_happens_46 : decode cM_happens 46 = .ok (.aload_n 0, 1) := by decide +kernel
theorem dM_happens_47 : decode cM_happens 47 = .ok (.getfield 22, 3) := by decide +kernel
theorem dM_happens_50 : decode cM_happens 50 = .ok (.iload_n 1, 1) := by decide +kernel
theorem dM_happens_51 : decode cM_happens 51 = .ok (.dup2, 1) := by decide +kernel
theorem dM_happens_52 : decode cM_happens 52 = .ok (.iaload, 1) := by decide +kernel
theorem dM_happens_53 : decode cM_happens 53 = .ok (.iload_n 2, 1) := by decide +kernel
theorem dM_happens_54 : decode cM_happens 54 = .ok (.bipush 9, 2) := by decide +kernel
theorem dM_happens_56 : decode cM_happens 56 = .ok (.if_icmp .ne 7, 3) := by decide +kernel
theorem dM_happens_59 : decode cM_happens 59 = .ok (.iconst 4, 1) := by decide +kernel
theorem dM_happens_60 : decode cM_happens 60 = .ok (.goto 4, 3) := by decide +kernel
theorem dM_happens_63 : decode cM_happens 63 = .ok (.iconst 0, 1) := by decide +kernel
theorem dM_happens_64 : decode cM_happens 64 = .ok (.isub, 1) := by decide +kernel
theorem dM_happens_65 : decode cM_happens 65 = .ok (.iastore, 1) := by decide +kernel
theorem dM_happens_66 : decode cM_happens 66 = .ok (.iload_n 2, 1) := by decide +kernel
theorem dM_happens_67 : decode cM_happens 67 = .ok (.ifCond .ne 7, 3) := by decide +kernel
theorem dM_happens_70 : decode cM_happens 70 = .ok (.iconst 1, 1) := by decide +kernel
theorem dM_happens_71 : decode cM_happens 71 = .ok (.goto 54, 3) := by decide +kernel
theorem dM_happens_74 : decode cM_happens 74 = .ok (.iload_n 2, 1) := by decide +kernel
theorem dM_happens_75 : decode cM_happens 75 = .ok (.iconst 2, 1) := by decide +kernel
theorem dM_happens_76 : decode cM_happens 76 = .ok (.if_icmp .eq 13, 3) := by decide +kernel
theorem dM_happens_79 : decode cM_happens 79 = .ok (.iload_n 2, 1) := by decide +kernel
theorem dM_happens_80 : decode cM_happens 80 = .ok (.iconst 4, 1) := by decide +kernel
theorem dM_happens_81 : decode cM_happens 81 = .ok (.if_icmp .eq 8, 3) := by decide +kernel
theorem dM_happens_84 : decode cM_happens 84 = .ok (.iload_n 2, 1) := by decide +kernel
theorem dM_happens_85 : decode cM_happens 85 = .ok (.iconst 5, 1) := by decide +kernel
theorem dM_happens_86 : decode cM_happens 86 = .ok (.if_icmp .ne 7, 3) := by decide +kernel
theorem dM_happens_89 : decode cM_happens 89 = .ok (.iconst 2, 1) := by decide +kernel
theorem dM_happens_90 : decode cM_happens 90 = .ok (.goto 35, 3) := by decide +kernel
theorem dM_happens_93 : decode cM_happens 93 = .ok (.iload_n 2, 1) := by decide +kernel
theorem dM_happens_94 : decode cM_happens 94 = .ok (.iconst 3, 1) := by decide +kernel
theorem dM_happens_95 : decode cM_happens 95 = .ok (.if_icmp .ne 7, 3) := by decide +kernel
theorem dM_happens_98 : decode cM_happens 98 = .ok (.iconst 3, 1) := by decide +kernel
theorem dM_happens_99 : decode cM_happens 99 = .ok (.goto 26, 3) := by decide +kernel
theorem dM_happens_102 : decode cM_happens 102 = .ok (.iload_n 2, 1) := by decide +kernel
theorem dM_happens_103 : decode cM_happens 103 = .ok (.bipush 7, 2) := by decide +kernel
theorem dM_happens_105 : decode cM_happens 105 = .ok (.if_icmp .ne 7, 3) := by decide +kernel
theorem dM_happens_108 : decode cM_happens 108 = .ok (.iconst 5, 1) := by decide +kernel
theorem dM_happens_109 : decode cM_happens 109 = .ok (.goto 16, 3) := by decide +kernel
theorem dM_happens_112 : decode cM_happens 112 = .ok (.iload_n 2, 1) := by decide +kernel
theorem dM_happens_113 : decode cM_happens 113 = .ok (.bipush 8, 2) := by decide +kernel
theorem dM_happens_115 : decode cM_happens 115 = .ok (.if_icmp .ne 8, 3) := by decide +kernel
theorem dM_happens_118 : decode cM_happens 118 = .ok (.bipush 7, 2) := by decide +kernel
theorem dM_happens_120 : decode cM_happens 120 = .ok (.goto 5, 3) := by decide +kernel
theorem dM_happens_123 : decode cM_happens 123 = .ok (.iload 4, 2) := by decide +kernel
theorem dM_happens_125 : decode cM_happens 125 = .ok (.istore 5, 2) := by decide +kernel
theorem dM_happens_127 : decode cM_happens 127 = .ok (.aload_n 0, 1) := by decide +kernel
theorem dM_happens_128 : decode cM_happens 128 = .ok (.iload_n 1, 1) := by decide +kernel
theorem dM_happens_129 : decode cM_happens 129 = .ok (.iload 5, 2) := by decide +kernel
theorem dM_happens_131 : decode cM_happens 131 = .ok (.iload_n 3, 1) := by decide +kernel
theorem dM_happens_132 : decode cM_happens 132 = .ok (.invokevirtual 120, 3) := by decide +kernel
theorem dM_happens_135 : decode cM_happens 135 = .ok (.aload_n 0, 1) := by decide +kernel
theorem dM_happens_136 : decode cM_happens 136 = .ok (.iload_n 1, 1) := by decide +kernel
theorem dM_happens_137 : decode cM_happens 137 = .ok (.iload_n 3, 1) := by decide +kernel
theorem dM_happens_138 : decode cM_happens 138 = .ok (.invokevirtual 124, 3) := by decide +kernel
theorem dM_happens_141 : decode cM_happens 141 = .ok (.return_, 1) := by decide +kernel
theorem dM_first_0 : decode cM_first 0 = .ok (.iconst (-1), 1) := by decide +kernel
theorem dM_first_1 : decode cM_first 1 = .ok (.istore_n 2, 1) := by decide +kernel
theorem dM_first_2 : decode cM_first 2 = .ok (.iconst 0, 1) := by decide +kernel
theorem dM_first_3 : decode cM_first 3 = .ok (.istore_n 3, 1) := by decide +kernel
theorem dM_first_4 : decode cM_first 4 = .ok (.iload_n 3, 1) := by decide +kernel
theorem dM_first_5 : decode cM_first 5 = .ok (.aload_n 0, 1) := by decide +kernel
theorem dM_first_6 : decode cM_first 6 = .ok (.getfield 90, 3) := by decide +kernel
theorem dM_first_9 : decode cM_first 9 = .ok (.if_icmp .ge 109, 3) := by decide +kernel
theorem dM_first_12 : decode cM_first 12 = .ok (.iload_n 2, 1) := by decide +kernel
theorem dM_first_13 : decode cM_first 13 = .ok (.ifCond .ge 7, 3) := by decide +kernel
theorem dM_first_16 : decode cM_first 16 = .ok (.iload_n 3, 1) := by decide +kernel
theorem dM_first_17 : decode cM_first 17 = .ok (.goto 4, 3) := by decide +kernel
theorem dM_first_20 : decode cM_first 20 = .ok (.iload_n 2, 1) := by decide +kernel
theorem dM_first_21 : decode cM_first 21 = .ok (.istore 4, 2) := by decide +kernel
theorem dM_first_23 : decode cM_first 23 = .ok (.iload_n 2, 1) := by decide +kernel
theorem dM_first_24 : decode cM_first 24 = .ok (.ifCond .lt 51, 3) := by decide +kernel
theorem dM_first_27 : decode cM_first 27 = .ok (.aload_n 0, 1) := by decide +kernel
theorem dM_first_28 : decode cM_first 28 = .ok (.getfield 46, 3) := by decide +kernel
theorem dM_first_31 : decode cM_first 31 = .ok (.iload_n 3, 1) := by decide +kernel
theorem dM_first_32 : decode cM_first 32 = .ok (.iaload, 1) := by decide +kernel
theorem dM_first_33 : decode cM_first 33 = .ok (.aload_n 0, 1) := by decide +kernel
theorem dM_first_34 : decode cM_first 34 = .ok (.getfield 46, 3) := by decide +kernel
theorem dM_first_37 : decode cM_first 37 = .ok (.iload 4, 2) := by decide +kernel
theorem dM_first_39 : decode cM_first 39 = .ok (.iaload, 1) := by decide +kernel
theorem dM_first_40 : decode cM_first 40 = .ok (.if_icmp .lt 35, 3) := by decide +kernel
theorem dM_first_43 : decode cM_first 43 = .ok (.aload_n 0, 1) := by decide +kernel
theorem dM_first_44 : decode cM_first 44 = .ok (.getfield 46, 3) := by decide +kernel
theorem dM_first_47 : decode cM_first 47 = .ok (.iload_n 3, 1) := by decide +kernel
theorem dM_first_48 : decode cM_first 48 = .ok (.iaload, 1) := by decide +kernel
theorem dM_first_49 : decode cM_first 49 = .ok (.aload_n 0, 1) := by decide +kernel
theorem dM_first_50 : decode cM_first 50 = .ok (.getfield 46, 3) := by decide +kernel
theorem dM_first_53 : decode cM_first 53 = .ok (.iload 4, 2) := by decide +kernel
theorem dM_first_55 : decode cM_first 55 = .ok (.iaload, 1) := by decide +kernel
theorem dM_first_56 : decode cM_first 56 = .ok (.if_icmp .ne 23, 3) := by decide +kernel
theorem dM_first_59 : decode cM_first 59 = .ok (.aload_n 0, 1) := by decide +kernel
theorem dM_first_60 : decode cM_first 60 = .ok (.getfield 40, 3) := by decide +kernel
theorem dM_first_63 : decode cM_first 63 = .ok (.iload_n 3, 1) := by decide +kernel
theorem dM_first_64 : decode cM_first 64 = .ok (.iaload, 1) := by decide +kernel
theorem dM_first_65 : decode cM_first 65 = .ok (.aload_n 0, 1) := by decide +kernel
theorem dM_first_66 : decode cM_first 66 = .ok (.getfield 40, 3) := by decide +kernel
theorem dM_first_69 : decode cM_first 69 = .ok (.iload 4, 2) := by decide +kernel
theorem dM_first_71 : decode cM_first 71 = .ok (.iaload, 1) := by decide +kernel
theorem dM_first_72 : decode cM_first 72 = .ok (.if_icmp .ge 7, 3) := by decide +kernel
theorem dM_first_75 : decode cM_first 75 = .ok (.iconst 1, 1) := by decide +kernel
theorem dM_first_76 : decode cM_first 76 = .ok (.goto 4, 3) := by decide +kernel
theorem dM_first_79 : decode cM_first 79 = .ok (.iconst 0, 1) := by decide +kernel
theorem dM_first_80 : decode cM_first 80 = .ok (.istore 5, 2) := by decide +kernel
theorem dM_first_82 : decode cM_first 82 = .ok (.aload_n 0, 1) := by decide +kernel
theorem dM_first_83 : decode cM_first 83 = .ok (.getfield 49, 3) := by decide +kernel
theorem dM_first_86 : decode cM_first 86 = .ok (.iload_n 3, 1) := by decide +kernel
theorem dM_first_87 : decode cM_first 87 = .ok (.baload, 1) := by decide +kernel
theorem dM_first_88 : decode cM_first 88 = .ok (.ifCond .eq 22, 3) := by decide +kernel
theorem dM_first_91 : decode cM_first 91 = .ok (.aload_n 0, 1) := by decide +kernel
theorem dM_first_92 : decode cM_first 92 = .ok (.getfield 46, 3) := by decide +kernel
theorem dM_first_95 : decode cM_first 95 = .ok (.iload_n 3, 1) := by decide +kernel
theorem dM_first_96 : decode cM_first 96 = .ok (.iaload, 1) := by decide +kernel
theorem dM_first_97 : decode cM_first 97 = .ok (.iload_n 1, 1) := by decide +kernel
theorem dM_first_98 : decode cM_first 98 = .ok (.if_icmp .gt 12, 3) := by decide +kernel
theorem dM_first_101 : decode cM_first 101 = .ok (.iload 5, 2) := by decide +kernel
theorem dM_first_103 : decode cM_first 103 = .ok (.ifCond .eq 7, 3) := by decide +kernel
theorem dM_first_106 : decode cM_first 106 = .ok (.iload_n 3, 1) := by decide +kernel
theorem dM_first_107 : decode cM_first 107 = .ok (.goto 4, 3) := by decide +kernel
theorem dM_first_110 : decode cM_first 110 = .ok (.iload_n 2, 1) := by decide +kernel
theorem dM_first_111 : decode cM_first 111 = .ok (.istore_n 2, 1) := by decide +kernel
theorem dM_first_112 : decode cM_first 112 = .ok (.iinc 3 1, 3) := by decide +kernel
theorem dM_first_115 : decode cM_first 115 = .ok (.goto (-111), 3) := by decide +kernel
theorem dM_first_118 : decode cM_first 118 = .ok (.iload_n 2, 1) := by decide +kernel
theorem dM_first_119 : decode cM_first 119 = .ok (.ireturn, 1) := by decide +kernel
theorem dM_tick_0 : decode cM_tick 0 = .ok (.iload_n 1, 1) := by decide +kernel
theorem dM_tick_1 : decode cM_tick 1 = .ok (.aload_n 0, 1) := by decide +kernel
theorem dM_tick_2 : decode cM_tick 2 = .ok (.getfield 96, 3) := by decide +kernel
theorem dM_tick_5 : decode cM_tick 5 = .ok (.ldc 99, 2) := by decide +kernel
theorem dM_tick_7 : decode cM_tick 7 = .ok (.invokestatic 78, 3) := by decide +kernel
theorem dM_tick_10 : decode cM_tick 10 = .ok (.ifCond .ne 9, 3) := by decide +kernel
theorem dM_tick_13 : decode cM_tick 13 = .ok (.aload_n 0, 1) := by decide +kernel
theorem dM_tick_14 : decode cM_tick 14 = .ok (.iconst 1, 1) := by decide +kernel
theorem dM_tick_15 : decode cM_tick 15 = .ok (.invokevirtual 82, 3) := by decide +kernel
theorem dM_tick_18 : decode cM_tick 18 = .ok (.ireturn, 1) := by decide +kernel
theorem dM_tick_19 : decode cM_tick 19 = .ok (.aload_n 0, 1) := by decide +kernel
theorem dM_tick_20 : decode cM_tick 20 = .ok (.iconst 0, 1) := by decide +kernel
theorem dM_tick_21 : decode cM_tick 21 = .ok (.putfield 69, 3) := by decide +kernel
theorem dM_tick_24 : decode cM_tick 24 = .ok (.iconst 0, 1) := by decide +kernel
theorem dM_tick_25 : decode cM_tick 25 = .ok (.istore_n 2, 1) := by decide +kernel
theorem dM_tick_26 : decode cM_tick 26 = .ok (.aload_n 0, 1) := by decide +kernel
theorem dM_tick_27 : decode cM_tick 27 = .ok (.iload_n 1, 1) := by decide +kernel
theorem dM_tick_28 : decode cM_tick 28 = .ok (.invokevirtual 128, 3) := by decide +kernel
theorem dM_tick_31 : decode cM_tick 31 = .ok (.istore_n 3, 1) := by decide +kernel
theorem dM_tick_32 : decode cM_tick 32 = .ok (.iload_n 3, 1) := by decide +kernel
theorem dM_tick_33 : decode cM_tick 33 = .ok (.ifCond .lt 105, 3) := by decide +kernel
theorem dM_tick_36 : decode cM_tick 36 = .ok (.aload_n 0, 1) := by decide +kernel
theorem dM_tick_37 : decode cM_tick 37 = .ok (.iload_n 3, 1) := by decide +kernel
theorem dM_tick_38 : decode cM_tick 38 = .ok (.invokevirtual 131, 3) := by decide +kernel
theorem dM_tick_41 : decode cM_tick 41 = .ok (.istore 4, 2) := by decide +kernel
theorem dM_tick_43 : decode cM_tick 43 = .ok (.iload 4, 2) := by decide +kernel
theorem dM_tick_45 : decode cM_tick 45 = .ok (.ifCond .ne 25, 3) := by decide +kernel
theorem dM_tick_48 : decode cM_tick 48 = .ok (.aload_n 0, 1) := by decide +kernel
theorem dM_tick_49 : decode cM_tick 49 = .ok (.aload_n 0, 1) := by decide +kernel
theorem dM_tick_50 : decode cM_tick 50 = .ok (.getfield 37, 3) := by decide +kernel
theorem dM_tick_53 : decode cM_tick 53 = .ok (.iload_n 3, 1) := by decide +kernel
theorem dM_tick_54 : decode cM_tick 54 = .ok (.iaload, 1) := by decide +kernel
theorem dM_tick_55 : decode cM_tick 55 = .ok (.aload_n 0, 1) := by decide +kernel
theorem dM_tick_56 : decode cM_tick 56 = .ok (.getfield 40, 3) := by decide +kernel
theorem dM_tick_59 : decode cM_tick 59 = .ok (.iload_n 3, 1) := by decide +kernel
theorem dM_tick_60 : decode cM_tick 60 = .ok (.iaload, 1) := by decide +kernel
theorem dM_tick_61 : decode cM_tick 61 = .ok (.aload_n 0, 1) := by decide +kernel
theorem dM_tick_62 : decode cM_tick 62 = .ok (.getfield 46, 3) := by decide +kernel
theorem dM_tick_65 : decode cM_tick 65 = .ok (.iload_n 3, 1) := by decide +kernel
theorem dM_tick_66 : decode cM_tick 66 = .ok (.iaload, 1) := by decide +kernel
theorem dM_tick_67 : decode cM_tick 67 = .ok (.invokevirtual 134, 3) := by decide +kernel
theorem dM_tick_70 : decode cM_tick 70 = .ok (.aload_n 0, 1) := by decide +kernel
theorem dM_tick_71 : decode cM_tick 71 = .ok (.getfield 49, 3) := by decide +kernel
theorem dM_tick_74 : decode cM_tick 74 = .ok (.iload_n 3, 1) := by decide +kernel
theorem dM_tick_75 : decode cM_tick 75 = .ok (.iconst 0, 1) := by decide +kernel
theorem dM_tick_76 : decode cM_tick 76 = .ok (.bastore, 1) := by decide +kernel
theorem dM_tick_77 : decode cM_tick 77 = .ok (.aload_n 0, 1) := by decide +kernel
theorem dM_tick_78 : decode cM_tick 78 = .ok (.getfield 53, 3) := by decide +kernel
theorem dM_tick_81 : decode cM_tick 81 = .ok (.iload_n 3, 1) := by decide +kernel
theorem dM_tick_82 : decode cM_tick 82 = .ok (.iload 4, 2) := by decide +kernel
theorem dM_tick_84 : decode cM_tick 84 = .ok (.ifCond .le 10, 3) := by decide +kernel
theorem dM_tick_87 : decode cM_tick 87 = .ok (.iconst (-1), 1) := by decide +kernel
theorem dM_tick_88 : decode cM_tick 88 = .ok (.iload 4, 2) := by decide +kernel
theorem dM_tick_90 : decode cM_tick 90 = .ok (.isub, 1) := by decide +kernel
theorem dM_tick_91 : decode cM_tick 91 = .ok (.goto 14, 3) := by decide +kernel
theorem dM_tick_94 : decode cM_tick 94 = .ok (.aload_n 0, 1) := by decide +kernel
theorem dM_tick_95 : decode cM_tick 95 = .ok (.getfield 19, 3) := by decide +kernel
theorem dM_tick_98 : decode cM_tick 98 = .ok (.aload_n 0, 1) := by decide +kernel
theorem dM_tick_99 : decode cM_tick 99 = .ok (.getfield 37, 3) := by decide +kernel
theorem dM_tick_102 : decode cM_tick 102 = .ok (.iload_n 3, 1) := by decide +kernel
theorem dM_tick_103 : decode cM_tick 103 = .ok (.iaload, 1) := by decide +kernel
theorem dM_tick_104 : decode cM_tick 104 = .ok (.iaload, 1) := by decide +kernel
theorem dM_tick_105 : decode cM_tick 105 = .ok (.iastore, 1) := by decide +kernel
theorem dM_tick_106 : decode cM_tick 106 = .ok (.aload_n 0, 1) := by decide +kernel
theorem dM_tick_107 : decode cM_tick 107 = .ok (.getfield 56, 3) := by decide +kernel
theorem dM_tick_110 : decode cM_tick 110 = .ok (.iload_n 3, 1) := by decide +kernel
theorem dM_tick_111 : decode cM_tick 111 = .ok (.aload_n 0, 1) := by decide +kernel
theorem dM_tick_112 : decode cM_tick 112 = .ok (.getfield 137, 3) := by decide +kernel
theorem dM_tick_115 : decode cM_tick 115 = .ok (.iastore, 1) := by decide +kernel
theorem dM_tick_116 : decode cM_tick 116 = .ok (.aload_n 0, 1) := by decide +kernel
theorem dM_tick_117 : decode cM_tick 117 = .ok (.dup, 1) := by decide +kernel
theorem dM_tick_118 : decode cM_tick 118 = .ok (.getfield 137, 3) := by decide +kernel
theorem dM_tick_121 : decode cM_tick 121 = .ok (.iconst 1, 1) := by decide +kernel
theorem dM_tick_122 : decode cM_tick 122 = .ok (.iadd, 1) := by decide +kernel
theorem dM_tick_123 : decode cM_tick 123 = .ok (.putfield 137, 3) := by decide +kernel
theorem dM_tick_126 : decode cM_tick 126 = .ok (.iinc 2 1, 3) := by decide +kernel
theorem dM_tick_129 : decode cM_tick 129 = .ok (.aload_n 0, 1) := by decide +kernel
theorem dM_tick_130 : decode cM_tick 130 = .ok (.iload_n 1, 1) := by decide +kernel
theorem dM_tick_131 : decode cM_tick 131 = .ok (.invokevirtual 128, 3) := by decide +kernel
theorem dM_tick_134 : decode cM_tick 134 = .ok (.istore_n 3, 1) := by decide +kernel
theorem dM_tick_135 : decode cM_tick 135 = .ok (.goto (-103), 3) := by decide +kernel
theorem dM_tick_138 : decode cM_tick 138 = .ok (.aload_n 0, 1) := by decide +kernel
theorem dM_tick_139 : decode cM_tick 139 = .ok (.iload_n 1, 1) := by decide +kernel
theorem dM_tick_140 : decode cM_tick 140 = .ok (.putfield 96, 3) := by decide +kernel
theorem dM_tick_143 : decode cM_tick 143 = .ok (.iload_n 2, 1) := by decide +kernel
theorem dM_tick_144 : decode cM_tick 144 = .ok (.ireturn, 1) := by decide +kernel
theorem dM_hours_0 : decode cM_hours 0 = .ok (.aload_n 0, 1) := by decide +kernel
theorem dM_hours_1 : decode cM_hours 1 = .ok (.iconst 0, 1) := by decide +kernel
theorem dM_hours_2 : decode cM_hours 2 = .ok (.putfield 69, 3) := by decide +kernel
theorem dM_hours_5 : decode cM_hours 5 = .ok (.iload_n 1, 1) := by decide +kernel
theorem dM_hours_6 : decode cM_hours 6 = .ok (.iconst 0, 1) := by decide +kernel
theorem dM_hours_7 : decode cM_hours 7 = .ok (.bipush 24, 2) := by decide +kernel
theorem dM_hours_9 : decode cM_hours 9 = .ok (.invokestatic 78, 3) := by decide +kernel
theorem dM_hours_12 : decode cM_hours 12 = .ok (.ifCond .eq 18, 3) := by decide +kernel
theorem dM_hours_15 : decode cM_hours 15 = .ok (.iload_n 2, 1) := by decide +kernel
theorem dM_hours_16 : decode cM_hours 16 = .ok (.iconst 0, 1) := by decide +kernel
theorem dM_hours_17 : decode cM_hours 17 = .ok (.bipush 24, 2) := by decide +kernel
theorem dM_hours_19 : decode cM_hours 19 = .ok (.invokestatic 78, 3) := by decide +kernel
theorem dM_hours_22 : decode cM_hours 22 = .ok (.ifCond .eq 8, 3) := by decide +kernel
theorem dM_hours_25 : decode cM_hours 25 = .ok (.iload_n 1, 1) := by decide +kernel
theorem dM_hours_26 : decode cM_hours 26 = .ok (.iload_n 2, 1) := by decide +kernel
theorem dM_hours_27 : decode cM_hours 27 = .ok (.if_icmp .lt 5, 3) := by decide +kernel
theorem dM_hours_30 : decode cM_hours 30 = .ok (.iconst 0, 1) := by decide +kernel
theorem dM_hours_31 : decode cM_hours 31 = .ok (.ireturn, 1) := by decide +kernel
theorem dM_hours_32 : decode cM_hours 32 = .ok (.aload_n 0, 1) := by decide +kernel
theorem dM_hours_33 : decode cM_hours 33 = .ok (.iload_n 1, 1) := by decide +kernel
theorem dM_hours_34 : decode cM_hours 34 = .ok (.putfield 59, 3) := by decide +kernel
theorem dM_hours_37 : decode cM_hours 37 = .ok (.aload_n 0, 1) := by decide +kernel
theorem dM_hours_38 : decode cM_hours 38 = .ok (.iload_n 2, 1) := by decide +kernel
theorem dM_hours_39 : decode cM_hours 39 = .ok (.putfield 63, 3) := by decide +kernel
theorem dM_hours_42 : decode cM_hours 42 = .ok (.iconst 1, 1) := by decide +kernel
theorem dM_hours_43 : decode cM_hours 43 = .ok (.ireturn, 1) := by decide +kernel
theorem dM_fails_0 : decode cM_fails 0 = .ok (.aload_n 0, 1) := by decide +kernel
theorem dM_fails_1 : decode cM_fails 1 = .ok (.iconst 0, 1) := by decide +kernel
theorem dM_fails_2 : decode cM_fails 2 = .ok (.putfield 69, 3) := by decide +kernel
theorem dM_fails_5 : decode cM_fails 5 = .ok (.iload_n 1, 1) := by decide +kernel
theorem dM_fails_6 : decode cM_fails 6 = .ok (.iconst 0, 1) := by decide +kernel
theorem dM_fails_7 : decode cM_fails 7 = .ok (.bipush 9, 2) := by decide +kernel
theorem dM_fails_9 : decode cM_fails 9 = .ok (.invokestatic 78, 3) := by decide +kernel
theorem dM_fails_12 : decode cM_fails 12 = .ok (.ifCond .eq 13, 3) := by decide +kernel
theorem dM_fails_15 : decode cM_fails 15 = .ok (.aload_n 0, 1) := by decide +kernel
theorem dM_fails_16 : decode cM_fails 16 = .ok (.getfield 66, 3) := by decide +kernel
theorem dM_fails_19 : decode cM_fails 19 = .ok (.iload_n 1, 1) := by decide +kernel
theorem dM_fails_20 : decode cM_fails 20 = .ok (.baload, 1) := by decide +kernel
theorem dM_fails_21 : decode cM_fails 21 = .ok (.iload_n 2, 1) := by decide +kernel
theorem dM_fails_22 : decode cM_fails 22 = .ok (.if_icmp .ne 5, 3) := by decide +kernel
theorem dM_fails_25 : decode cM_fails 25 = .ok (.iconst 0, 1) := by decide +kernel
theorem dM_fails_26 : decode cM_fails 26 = .ok (.ireturn, 1) := by decide +kernel
theorem dM_fails_27 : decode cM_fails 27 = .ok (.aload_n 0, 1) := by decide +kernel
theorem dM_fails_28 : decode cM_fails 28 = .ok (.getfield 66, 3) := by decide +kernel
theorem dM_fails_31 : decode cM_fails 31 = .ok (.iload_n 1, 1) := by decide +kernel
theorem dM_fails_32 : decode cM_fails 32 = .ok (.iload_n 2, 1) := by decide +kernel
theorem dM_fails_33 : decode cM_fails 33 = .ok (.bastore, 1) := by decide +kernel
theorem dM_fails_34 : decode cM_fails 34 = .ok (.iconst 1, 1) := by decide +kernel
theorem dM_fails_35 : decode cM_fails 35 = .ok (.ireturn, 1) := by decide +kernel
theorem dM_ones_0 : decode cM_ones 0 = .ok (.iconst 0, 1) := by decide +kernel
theorem dM_ones_1 : decode cM_ones 1 = .ok (.istore_n 1, 1) := by decide +kernel
theorem dM_ones_2 : decode cM_ones 2 = .ok (.iconst 0, 1) := by decide +kernel
theorem dM_ones_3 : decode cM_ones 3 = .ok (.istore_n 2, 1) := by decide +kernel
theorem dM_ones_4 : decode cM_ones 4 = .ok (.iload_n 2, 1) := by decide +kernel
theorem dM_ones_5 : decode cM_ones 5 = .ok (.bipush 8, 2) := by decide +kernel
theorem dM_ones_7 : decode cM_ones 7 = .ok (.if_icmp .ge 17, 3) := by decide +kernel
theorem dM_ones_10 : decode cM_ones 10 = .ok (.iload_n 1, 1) := by decide +kernel
theorem dM_ones_11 : decode cM_ones 11 = .ok (.iload_n 0, 1) := by decide +kernel
theorem dM_ones_12 : decode cM_ones 12 = .ok (.iload_n 2, 1) := by decide +kernel
theorem dM_ones_13 : decode cM_ones 13 = .ok (.ishr, 1) := by decide +kernel
theorem dM_ones_14 : decode cM_ones 14 = .ok (.iconst 1, 1) := by decide +kernel
theorem dM_ones_15 : decode cM_ones 15 = .ok (.iand, 1) := by decide +kernel
theorem dM_ones_16 : decode cM_ones 16 = .ok (.iadd, 1) := by decide +kernel
theorem dM_ones_17 : decode cM_ones 17 = .ok (.istore_n 1, 1) := by decide +kernel
theorem dM_ones_18 : decode cM_ones 18 = .ok (.iinc 2 1, 3) := by decide +kernel
theorem dM_ones_21 : decode cM_ones 21 = .ok (.goto (-17), 3) := by decide +kernel
theorem dM_ones_24 : decode cM_ones 24 = .ok (.iload_n 1, 1) := by decide +kernel
theorem dM_ones_25 : decode cM_ones 25 = .ok (.ireturn, 1) := by decide +kernel
theorem dM_bar_0 : decode cM_bar 0 = .ok (.aload_n 0, 1) := by decide +kernel
theorem dM_bar_1 : decode cM_bar 1 = .ok (.iload_n 1, 1) := by decide +kernel
theorem dM_bar_2 : decode cM_bar 2 = .ok (.invokevirtual 93, 3) := by decide +kernel
theorem dM_bar_5 : decode cM_bar 5 = .ok (.ifCond .eq 13, 3) := by decide +kernel
theorem dM_bar_8 : decode cM_bar 8 = .ok (.iload_n 2, 1) := by decide +kernel
theorem dM_bar_9 : decode cM_bar 9 = .ok (.iconst 0, 1) := by decide +kernel
theorem dM_bar_10 : decode cM_bar 10 = .ok (.bipush 7, 2) := by decide +kernel
theorem dM_bar_12 : decode cM_bar 12 = .ok (.invokestatic 78, 3) := by decide +kernel
theorem dM_bar_15 : decode cM_bar 15 = .ok (.ifCond .ne 9, 3) := by decide +kernel
theorem dM_bar_18 : decode cM_bar 18 = .ok (.aload_n 0, 1) := by decide +kernel
theorem dM_bar_19 : decode cM_bar 19 = .ok (.iconst 1, 1) := by decide +kernel
theorem dM_bar_20 : decode cM_bar 20 = .ok (.invokevirtual 82, 3) := by decide +kernel
theorem dM_bar_23 : decode cM_bar 23 = .ok (.ireturn, 1) := by decide +kernel
theorem dM_bar_24 : decode cM_bar 24 = .ok (.aload_n 0, 1) := by decide +kernel
theorem dM_bar_25 : decode cM_bar 25 = .ok (.iconst 0, 1) := by decide +kernel
theorem dM_bar_26 : decode cM_bar 26 = .ok (.putfield 69, 3) := by decide +kernel
theorem dM_bar_29 : decode cM_bar 29 = .ok (.aload_n 0, 1) := by decide +kernel
theorem dM_bar_30 : decode cM_bar 30 = .ok (.getfield 19, 3) := by decide +kernel
theorem dM_bar_33 : decode cM_bar 33 = .ok (.iload_n 1, 1) := by decide +kernel
theorem dM_bar_34 : decode cM_bar 34 = .ok (.iaload, 1) := by decide +kernel
theorem dM_bar_35 : decode cM_bar 35 = .ok (.bipush 6, 2) := by decide +kernel
theorem dM_bar_37 : decode cM_bar 37 = .ok (.if_icmp .eq 37, 3) := by decide +kernel
theorem dM_bar_40 : decode cM_bar 40 = .ok (.aload_n 0, 1) := by decide +kernel
theorem dM_bar_41 : decode cM_bar 41 = .ok (.getfield 19, 3) := by decide +kernel
theorem dM_bar_44 : decode cM_bar 44 = .ok (.iload_n 1, 1) := by decide +kernel
theorem dM_bar_45 : decode cM_bar 45 = .ok (.iaload, 1) := by decide +kernel
theorem dM_bar_46 : decode cM_bar 46 = .ok (.bipush 7, 2) := by decide +kernel
theorem dM_bar_48 : decode cM_bar 48 = .ok (.if_icmp .eq 26, 3) := by decide +kernel
theorem dM_bar_51 : decode cM_bar 51 = .ok (.aload_n 0, 1) := by decide +kernel
theorem dM_bar_52 : decode cM_bar 52 = .ok (.getfield 25, 3) := by decide +kernel
theorem dM_bar_55 : decode cM_bar 55 = .ok (.iload_n 1, 1) := by decide +kernel
theorem dM_bar_56 : decode cM_bar 56 = .ok (.iaload, 1) := by decide +kernel
theorem dM_bar_57 : decode cM_bar 57 = .ok (.iload_n 2, 1) := by decide +kernel
theorem dM_bar_58 : decode cM_bar 58 = .ok (.ishr, 1) := by decide +kernel
theorem dM_bar_59 : decode cM_bar 59 = .ok (.iconst 1, 1) := by decide +kernel
theorem dM_bar_60 : decode cM_bar 60 = .ok (.iand, 1) := by decide +kernel
theorem dM_bar_61 : decode cM_bar 61 = .ok (.iconst 1, 1) := by decide +kernel
theorem dM_bar_62 : decode cM_bar 62 = .ok (.if_icmp .ne 7, 3) := by decide +kernel
theorem dM_bar_65 : decode cM_bar 65 = .ok (.iconst 1, 1) := by decide +kernel
theorem dM_bar_66 : decode cM_bar 66 = .ok (.goto 4, 3) := by decide +kernel
theorem dM_bar_69 : decode cM_bar 69 = .ok (.iconst 0, 1) := by decide +kernel
theorem dM_bar_70 : decode cM_bar 70 = .ok (.iload_n 3, 1) := by decide +kernel
theorem dM_bar_71 : decode cM_bar 71 = .ok (.if_icmp .ne 5, 3) := by decide +kernel
theorem dM_bar_74 : decode cM_bar 74 = .ok (.iconst (-1), 1) := by decide +kernel
theorem dM_bar_75 : decode cM_bar 75 = .ok (.ireturn, 1) := by decide +kernel
theorem dM_bar_76 : decode cM_bar 76 = .ok (.aload_n 0, 1) := by decide +kernel
theorem dM_bar_77 : decode cM_bar 77 = .ok (.getfield 25, 3) := by decide +kernel
theorem dM_bar_80 : decode cM_bar 80 = .ok (.iload_n 1, 1) := by decide +kernel
theorem dM_bar_81 : decode cM_bar 81 = .ok (.dup2, 1) := by decide +kernel
theorem dM_bar_82 : decode cM_bar 82 = .ok (.iaload, 1) := by decide +kernel
theorem dM_bar_83 : decode cM_bar 83 = .ok (.iload_n 3, 1) := by decide +kernel
theorem dM_bar_84 : decode cM_bar 84 = .ok (.ifCond .eq 9, 3) := by decide +kernel
theorem dM_bar_87 : decode cM_bar 87 = .ok (.iconst 1, 1) := by decide +kernel
theorem dM_bar_88 : decode cM_bar 88 = .ok (.iload_n 2, 1) := by decide +kernel
theorem dM_bar_89 : decode cM_bar 89 = .ok (.ishl, 1) := by decide +kernel
theorem dM_bar_90 : decode cM_bar 90 = .ok (.goto 7, 3) := by decide +kernel
theorem dM_bar_93 : decode cM_bar 93 = .ok (.iconst 1, 1) := by decide +kernel
theorem dM_bar_94 : decode cM_bar 94 = .ok (.iload_n 2, 1) := by decide +kernel
theorem dM_bar_95 : decode cM_bar 95 = .ok (.ishl, 1) := by decide +kernel
theorem dM_bar_96 : decode cM_bar 96 = .ok (.ineg, 1) := by decide +kernel
theorem dM_bar_97 : decode cM_bar 97 = .ok (.iadd, 1) := by decide +kernel
theorem dM_bar_98 : decode cM_bar 98 = .ok (.iastore, 1) := by decide +kernel
theorem dM_bar_99 : decode cM_bar 99 = .ok (.iload_n 3, 1) := by decide +kernel
theorem dM_bar_100 : decode cM_bar 100 = .ok (.ifCond .ne 12, 3) := by decide +kernel
theorem dM_bar_103 : decode cM_bar 103 = .ok (.aload_n 0, 1) := by decide +kernel
theorem dM_bar_104 : decode cM_bar 104 = .ok (.iload_n 1, 1) := by decide +kernel
theorem dM_bar_105 : decode cM_bar 105 = .ok (.aload_n 0, 1) := by decide +kernel
theorem dM_bar_106 : decode cM_bar 106 = .ok (.getfield 96, 3) := by decide +kernel
theorem dM_bar_109 : decode cM_bar 109 = .ok (.invokevirtual 124, 3) := by decide +kernel
theorem dM_bar_112 : decode cM_bar 112 = .ok (.aload_n 0, 1) := by decide +kernel
theorem dM_bar_113 : decode cM_bar 113 = .ok (.getfield 25, 3) := by decide +kernel
theorem dM_bar_116 : decode cM_bar 116 = .ok (.iload_n 1, 1) := by decide +kernel
theorem dM_bar_117 : decode cM_bar 117 = .ok (.iaload, 1) := by decide +kernel
theorem dM_bar_118 : decode cM_bar 118 = .ok (.invokestatic 140, 3) := by decide +kernel
theorem dM_bar_121 : decode cM_bar 121 = .ok (.ireturn, 1) := by decide +kernel
theorem dM_invalidate_0 : decode cM_invalidate 0 = .ok (.aload_n 0, 1) := by decide +kernel
theorem dM_invalidate_1 : decode cM_invalidate 1 = .ok (.iload_n 1, 1) := by decide +kernel
theorem dM_invalidate_2 : decode cM_invalidate 2 = .ok (.invokevirtual 93, 3) := by decide +kernel
theorem dM_invalidate_5 : decode cM_invalidate 5 = .ok (.ifCond .eq 21, 3) := by decide +kernel
theorem dM_invalidate_8 : decode cM_invalidate 8 = .ok (.aload_n 0, 1) := by decide +kernel
theorem dM_invalidate_9 : decode cM_invalidate 9 = .ok (.iload_n 2, 1) := by decide +kernel
theorem dM_invalidate_10 : decode cM_invalidate 10 = .ok (.invokevirtual 86, 3) := by decide +kernel
theorem dM_invalidate_13 : decode cM_invalidate 13 = .ok (.ifCond .eq 13, 3) := by decide +kernel
theorem dM_invalidate_16 : decode cM_invalidate 16 = .ok (.iload_n 3, 1) := by decide +kernel
theorem dM_invalidate_17 : decode cM_invalidate 17 = .ok (.iconst 0, 1) := by decide +kernel
theorem dM_invalidate_18 : decode cM_invalidate 18 = .ok (.bipush 9, 2) := by decide +kernel
theorem dM_invalidate_20 : decode cM_invalidate 20 = .ok (.invokestatic 78, 3) := by decide +kernel
theorem dM_invalidate_23 : decode cM_invalidate 23 = .ok (.ifCond .ne 9, 3) := by decide +kernel
theorem dM_invalidate_26 : decode cM_invalidate 26 = .ok (.aload_n 0, 1) := by decide +kernel
theorem dM_invalidate_27 : decode cM_invalidate 27 = .ok (.iconst 1, 1) := by decide +kernel
theorem dM_invalidate_28 : decode cM_invalidate 28 = .ok (.invokevirtual 82, 3) := by decide +kernel
theorem dM_invalidate_31 : decode cM_invalidate 31 = .ok (.ireturn, 1) := by decide +kernel
theorem dM_invalidate_32 : decode cM_invalidate 32 = .ok (.aload_n 0, 1) := by decide +kernel
theorem dM_invalidate_33 : decode cM_invalidate 33 = .ok (.iconst 0, 1) := by decide +kernel
theorem dM_invalidate_34 : decode cM_invalidate 34 = .ok (.putfield 69, 3) := by decide +kernel
theorem dM_invalidate_37 : decode cM_invalidate 37 = .ok (.aload_n 0, 1) := by decide +kernel
theorem dM_invalidate_38 : decode cM_invalidate 38 = .ok (.getfield 19, 3) := by decide +kernel
theorem dM_invalidate_41 : decode cM_invalidate 41 = .ok (.iload_n 1, 1) := by decide +kernel
theorem dM_invalidate_42 : decode cM_invalidate 42 = .ok (.iaload, 1) := by decide +kernel
theorem dM_invalidate_43 : decode cM_invalidate 43 = .ok (.istore 4, 2) := by decide +kernel
theorem dM_invalidate_45 : decode cM_invalidate 45 = .ok (.aload_n 0, 1) := by decide +kernel
theorem dM_invalidate_46 : decode cM_invalidate 46 = .ok (.getfield 7, 3) := by decide +kernel
theorem dM_invalidate_49 : decode cM_invalidate 49 = .ok (.iload_n 2, 1) := by decide +kernel
theorem dM_invalidate_50 : decode cM_invalidate 50 = .ok (.iaload, 1) := by decide +kernel
theorem dM_invalidate_51 : decode cM_invalidate 51 = .ok (.iconst 1, 1) := by decide +kernel
theorem dM_invalidate_52 : decode cM_invalidate 52 = .ok (.if_icmp .ne 35, 3) := by decide +kernel
theorem dM_invalidate_55 : decode cM_invalidate 55 = .ok (.iload 4, 2) := by decide +kernel
theorem dM_invalidate_57 : decode cM_invalidate 57 = .ok (.iconst 4, 1) := by decide +kernel
theorem dM_invalidate_58 : decode cM_invalidate 58 = .ok (.if_icmp .gt 29, 3) := by decide +kernel
theorem dM_invalidate_61 : decode cM_invalidate 61 = .ok (.iload 4, 2) := by decide +kernel
theorem dM_invalidate_63 : decode cM_invalidate 63 = .ok (.iconst 1, 1) := by decide +kernel
theorem dM_invalidate_64 : decode cM_invalidate 64 = .ok (.if_icmp .le 7, 3) := by decide +kernel
theorem dM_invalidate_67 : decode cM_invalidate 67 = .ok (.iload_n 3, 1) := by decide +kernel
theorem dM_invalidate_68 : decode cM_invalidate 68 = .ok (.ifCond .eq 19, 3) := by decide +kernel
theorem dM_invalidate_71 : decode cM_invalidate 71 = .ok (.iload 4, 2) := by decide +kernel
theorem dM_invalidate_73 : decode cM_invalidate 73 = .ok (.iconst 4, 1) := by decide +kernel
theorem dM_invalidate_74 : decode cM_invalidate 74 = .ok (.if_icmp .ne 15, 3) := by decide +kernel
theorem dM_invalidate_77 : decode cM_invalidate 77 = .ok (.aload_n 0, 1) := by decide +kernel
theorem dM_invalidate_78 : decode cM_invalidate 78 = .ok (.getfield 31, 3) := by decide +kernel
theorem dM_invalidate_81 : decode cM_invalidate 81 = .ok (.iload_n 1, 1) := by decide +kernel
theorem dM_invalidate_82 : decode cM_invalidate 82 = .ok (.iaload, 1) := by decide +kernel
theorem dM_invalidate_83 : decode cM_invalidate 83 = .ok (.iload_n 2, 1) := by decide +kernel
theorem dM_invalidate_84 : decode cM_invalidate 84 = .ok (.if_icmp .ne 5, 3) := by decide +kernel
theorem dM_invalidate_87 : decode cM_invalidate 87 = .ok (.iconst 0, 1) := by decide +kernel
theorem dM_invalidate_88 : decode cM_invalidate 88 = .ok (.ireturn, 1) := by decide +kernel
theorem dM_invalidate_89 : decode cM_invalidate 89 = .ok (.iload 4, 2) := by decide +kernel
theorem dM_invalidate_91 : decode cM_invalidate 91 = .ok (.iconst 4, 1) := by decide +kernel
theorem dM_invalidate_92 : decode cM_invalidate 92 = .ok (.if_icmp .ne 22, 3) := by decide +kernel
theorem dM_invalidate_95 : decode cM_invalidate 95 = .ok (.aload_n 0, 1) := by decide +kernel
theorem dM_invalidate_96 : decode cM_invalidate 96 = .ok (.getfield 31, 3) := by decide +kernel
theorem dM_invalidate_99 : decode cM_invalidate 99 = .ok (.iload_n 1, 1) := by decide +kernel
theorem dM_invalidate_100 : decode cM_invalidate 100 = .ok (.iaload, 1) := by decide +kernel
theorem dM_invalidate_101 : decode cM_invalidate 101 = .ok (.iconst (-1), 1) := by decide +kernel
theorem dM_invalidate_102 : decode cM_invalidate 102 = .ok (.if_icmp .ne 12, 3) := by decide +kernel
theorem dM_invalidate_105 : decode cM_invalidate 105 = .ok (.aload_n 0, 1) := by decide +kernel
theorem dM_invalidate_106 : decode cM_invalidate 106 = .ok (.getfield 31, 3) := by decide +kernel
theorem dM_invalidate_109 : decode cM_invalidate 109 = .ok (.iload_n 1, 1) := by decide +kernel
theorem dM_invalidate_110 : decode cM_invalidate 110 = .ok (.iload_n 2, 1) := by decide +kernel
theorem dM_invalidate_111 : decode cM_invalidate 111 = .ok (.iastore, 1) := by decide +kernel
theorem dM_invalidate_112 : decode cM_invalidate 112 = .ok (.iconst 2, 1) := by decide +kernel
theorem dM_invalidate_113 : decode cM_invalidate 113 = .ok (.ireturn, 1) := by decide +kernel
theorem dM_invalidate_114 : decode cM_invalidate 114 = .ok (.aload_n 0, 1) := by decide +kernel
theorem dM_invalidate_115 : decode cM_invalidate 115 = .ok (.iload_n 1, 1) := by decide +kernel
theorem dM_invalidate_116 : decode cM_invalidate 116 = .ok (.bipush 6, 2) := by decide +kernel
theorem dM_invalidate_118 : decode cM_invalidate 118 = .ok (.aload_n 0, 1) := by decide +kernel
theorem dM_invalidate_119 : decode cM_invalidate 119 = .ok (.getfield 96, 3) := by decide +kernel
theorem dM_invalidate_122 : decode cM_invalidate 122 = .ok (.invokevirtual 120, 3) := by decide +kernel
theorem dM_invalidate_125 : decode cM_invalidate 125 = .ok (.aload_n 0, 1) := by decide +kernel
theorem dM_invalidate_126 : decode cM_invalidate 126 = .ok (.getfield 34, 3) := by decide +kernel
theorem dM_invalidate_129 : decode cM_invalidate 129 = .ok (.iload_n 1, 1) := by decide +kernel
theorem dM_invalidate_130 : decode cM_invalidate 130 = .ok (.iload_n 3, 1) := by decide +kernel
theorem dM_invalidate_131 : decode cM_invalidate 131 = .ok (.iastore, 1) := by decide +kernel
theorem dM_invalidate_132 : decode cM_invalidate 132 = .ok (.iconst 1, 1) := by decide +kernel
theorem dM_invalidate_133 : decode cM_invalidate 133 = .ok (.ireturn, 1) := by decide +kernel
theorem dM_writtenOf_0 : decode cM_writtenOf 0 = .ok (.iconst 0, 1) := by decide +kernel
theorem dM_writtenOf_1 : decode cM_writtenOf 1 = .ok (.istore_n 2, 1) := by decide +kernel
theorem dM_writtenOf_2 : decode cM_writtenOf 2 = .ok (.iconst 0, 1) := by decide +kernel
theorem dM_writtenOf_3 : decode cM_writtenOf 3 = .ok (.istore_n 3, 1) := by decide +kernel
theorem dM_writtenOf_4 : decode cM_writtenOf 4 = .ok (.iload_n 3, 1) := by decide +kernel
theorem dM_writtenOf_5 : decode cM_writtenOf 5 = .ok (.aload_n 0, 1) := by decide +kernel
theorem dM_writtenOf_6 : decode cM_writtenOf 6 = .ok (.getfield 90, 3) := by decide +kernel
theorem dM_writtenOf_9 : decode cM_writtenOf 9 = .ok (.if_icmp .ge 36, 3) := by decide +kernel
theorem dM_writtenOf_12 : decode cM_writtenOf 12 = .ok (.iload_n 2, 1) := by decide +kernel
theorem dM_writtenOf_13 : decode cM_writtenOf 13 = .ok (.aload_n 0, 1) := by decide +kernel
theorem dM_writtenOf_14 : decode cM_writtenOf 14 = .ok (.getfield 37, 3) := by decide +kernel
theorem dM_writtenOf_17 : decode cM_writtenOf 17 = .ok (.iload_n 3, 1) := by decide +kernel
theorem dM_writtenOf_18 : decode cM_writtenOf 18 = .ok (.iaload, 1) := by decide +kernel
theorem dM_writtenOf_19 : decode cM_writtenOf 19 = .ok (.iload_n 1, 1) := by decide +kernel
theorem dM_writtenOf_20 : decode cM_writtenOf 20 = .ok (.if_icmp .ne 16, 3) := by decide +kernel
theorem dM_writtenOf_23 : decode cM_writtenOf 23 = .ok (.aload_n 0, 1) := by decide +kernel
theorem dM_writtenOf_24 : decode cM_writtenOf 24 = .ok (.getfield 49, 3) := by decide +kernel
theorem dM_writtenOf_27 : decode cM_writtenOf 27 = .ok (.iload_n 3, 1) := by decide +kernel
theorem dM_writtenOf_28 : decode cM_writtenOf 28 = .ok (.baload, 1) := by decide +kernel
theorem dM_writtenOf_29 : decode cM_writtenOf 29 = .ok (.ifCond .ne 7, 3) := by decide +kernel
theorem dM_writtenOf_32 : decode cM_writtenOf 32 = .ok (.iconst 1, 1) := by decide +kernel
theorem dM_writtenOf_33 : decode cM_writtenOf 33 = .ok (.goto 4, 3) := by decide +kernel
theorem dM_writtenOf_36 : decode cM_writtenOf 36 = .ok (.iconst 0, 1) := by decide +kernel
theorem dM_writtenOf_37 : decode cM_writtenOf 37 = .ok (.iadd, 1) := by decide +kernel
theorem dM_writtenOf_38 : decode cM_writtenOf 38 = .ok (.istore_n 2, 1) := by decide +kernel
theorem dM_writtenOf_39 : decode cM_writtenOf 39 = .ok (.iinc 3 1, 3) := by decide +kernel
theorem dM_writtenOf_42 : decode cM_writtenOf 42 = .ok (.goto (-38), 3) := by decide +kernel
theorem dM_writtenOf_45 : decode cM_writtenOf 45 = .ok (.iload_n 2, 1) := by decide +kernel
theorem dM_writtenOf_46 : decode cM_writtenOf 46 = .ok (.ireturn, 1) := by decide +kernel
theorem dM_look_0 : decode cM_look 0 = .ok (.aload_n 0, 1) := by decide +kernel
theorem dM_look_1 : decode cM_look 1 = .ok (.iload_n 1, 1) := by decide +kernel
theorem dM_look_2 : decode cM_look 2 = .ok (.invokevirtual 93, 3) := by decide +kernel
theorem dM_look_5 : decode cM_look 5 = .ok (.ifCond .eq 13, 3) := by decide +kernel
theorem dM_look_8 : decode cM_look 8 = .ok (.iload_n 2, 1) := by decide +kernel
theorem dM_look_9 : decode cM_look 9 = .ok (.iconst 0, 1) := by decide +kernel
theorem dM_look_10 : decode cM_look 10 = .ok (.bipush 8, 2) := by decide +kernel
theorem dM_look_12 : decode cM_look 12 = .ok (.invokestatic 78, 3) := by decide +kernel
theorem dM_look_15 : decode cM_look 15 = .ok (.ifCond .ne 9, 3) := by decide +kernel
theorem dM_look_18 : decode cM_look 18 = .ok (.aload_n 0, 1) := by decide +kernel
theorem dM_look_19 : decode cM_look 19 = .ok (.iconst 1, 1) := by decide +kernel
theorem dM_look_20 : decode cM_look 20 = .ok (.invokevirtual 82, 3) := by decide +kernel
theorem dM_look_23 : decode cM_look 23 = .ok (.ireturn, 1) := by decide +kernel
theorem dM_look_24 : decode cM_look 24 = .ok (.aload_n 0, 1) := by decide +kernel
theorem dM_look_25 : decode cM_look 25 = .ok (.iconst 0, 1) := by decide +kernel
theorem dM_look_26 : decode cM_look 26 = .ok (.putfield 69, 3) := by decide +kernel
theorem dM_look_29 : decode cM_look 29 = .ok (.iload_n 2, 1) := by decide +kernel
theorem dM_look_30 : decode cM_look 30 = .ok (.tableswitch 101 0 7 #[46, 53, 60, 67, 74, 81, 87, 94], 46) := by decide +kernel
theorem dM_look_76 : decode cM_look 76 = .ok (.aload_n 0, 1) := by decide +kernel
theorem dM_look_77 : decode cM_look 77 = .ok (.getfield 19, 3) := by decide +kernel
theorem dM_look_80 : decode cM_look 80 = .ok (.iload_n 1, 1) := by decide +kernel
theorem dM_look_81 : decode cM_look 81 = .ok (.iaload, 1) := by decide +kernel
theorem dM_look_82 : decode cM_look 82 = .ok (.ireturn, 1) := by decide +kernel
theorem dM_look_83 : decode cM_look 83 = .ok (.aload_n 0, 1) := by decide +kernel
theorem dM_look_84 : decode cM_look 84 = .ok (.getfield 13, 3) := by decide +kernel
theorem dM_look_87 : decode cM_look 87 = .ok (.iload_n 1, 1) := by decide +kernel
theorem dM_look_88 : decode cM_look 88 = .ok (.iaload, 1) := by decide +kernel
theorem dM_look_89 : decode cM_look 89 = .ok (.ireturn, 1) := by decide +kernel
theorem dM_look_90 : decode cM_look 90 = .ok (.aload_n 0, 1) := by decide +kernel
theorem dM_look_91 : decode cM_look 91 = .ok (.getfield 16, 3) := by decide +kernel
theorem dM_look_94 : decode cM_look 94 = .ok (.iload_n 1, 1) := by decide +kernel
theorem dM_look_95 : decode cM_look 95 = .ok (.iaload, 1) := by decide +kernel
theorem dM_look_96 : decode cM_look 96 = .ok (.ireturn, 1) := by decide +kernel
theorem dM_look_97 : decode cM_look 97 = .ok (.aload_n 0, 1) := by decide +kernel
theorem dM_look_98 : decode cM_look 98 = .ok (.getfield 22, 3) := by decide +kernel
theorem dM_look_101 : decode cM_look 101 = .ok (.iload_n 1, 1) := by decide +kernel
theorem dM_look_102 : decode cM_look 102 = .ok (.iaload, 1) := by decide +kernel
theorem dM_look_103 : decode cM_look 103 = .ok (.ireturn, 1) := by decide +kernel
theorem dM_look_104 : decode cM_look 104 = .ok (.aload_n 0, 1) := by decide +kernel
theorem dM_look_105 : decode cM_look 105 = .ok (.getfield 25, 3) := by decide +kernel
theorem dM_look_108 : decode cM_look 108 = .ok (.iload_n 1, 1) := by decide +kernel
theorem dM_look_109 : decode cM_look 109 = .ok (.iaload, 1) := by decide +kernel
theorem dM_look_110 : decode cM_look 110 = .ok (.ireturn, 1) := by decide +kernel
theorem dM_look_111 : decode cM_look 111 = .ok (.aload_n 0, 1) := by decide +kernel
theorem dM_look_112 : decode cM_look 112 = .ok (.iload_n 1, 1) := by decide +kernel
theorem dM_look_113 : decode cM_look 113 = .ok (.invokevirtual 143, 3) := by decide +kernel
theorem dM_look_116 : decode cM_look 116 = .ok (.ireturn, 1) := by decide +kernel
theorem dM_look_117 : decode cM_look 117 = .ok (.aload_n 0, 1) := by decide +kernel
theorem dM_look_118 : decode cM_look 118 = .ok (.getfield 28, 3) := by decide +kernel
theorem dM_look_121 : decode cM_look 121 = .ok (.iload_n 1, 1) := by decide +kernel
theorem dM_look_122 : decode cM_look 122 = .ok (.iaload, 1) := by decide +kernel
theorem dM_look_123 : decode cM_look 123 = .ok (.ireturn, 1) := by decide +kernel
theorem dM_look_124 : decode cM_look 124 = .ok (.aload_n 0, 1) := by decide +kernel
theorem dM_look_125 : decode cM_look 125 = .ok (.getfield 31, 3) := by decide +kernel
theorem dM_look_128 : decode cM_look 128 = .ok (.iload_n 1, 1) := by decide +kernel
theorem dM_look_129 : decode cM_look 129 = .ok (.iaload, 1) := by decide +kernel
theorem dM_look_130 : decode cM_look 130 = .ok (.ireturn, 1) := by decide +kernel
theorem dM_look_131 : decode cM_look 131 = .ok (.aload_n 0, 1) := by decide +kernel
theorem dM_look_132 : decode cM_look 132 = .ok (.getfield 34, 3) := by decide +kernel
theorem dM_look_135 : decode cM_look 135 = .ok (.iload_n 1, 1) := by decide +kernel
theorem dM_look_136 : decode cM_look 136 = .ok (.iaload, 1) := by decide +kernel
theorem dM_look_137 : decode cM_look 137 = .ok (.ireturn, 1) := by decide +kernel
theorem dM_written_0 : decode cM_written 0 = .ok (.aload_n 0, 1) := by decide +kernel
theorem dM_written_1 : decode cM_written 1 = .ok (.iload_n 1, 1) := by decide +kernel
theorem dM_written_2 : decode cM_written 2 = .ok (.invokevirtual 93, 3) := by decide +kernel
theorem dM_written_5 : decode cM_written 5 = .ok (.ifCond .ne 9, 3) := by decide +kernel
theorem dM_written_8 : decode cM_written 8 = .ok (.aload_n 0, 1) := by decide +kernel
theorem dM_written_9 : decode cM_written 9 = .ok (.iconst 1, 1) := by decide +kernel
theorem dM_written_10 : decode cM_written 10 = .ok (.invokevirtual 82, 3) := by decide +kernel
theorem dM_written_13 : decode cM_written 13 = .ok (.ireturn, 1) := by decide +kernel
theorem dM_written_14 : decode cM_written 14 = .ok (.aload_n 0, 1) := by decide +kernel
theorem dM_written_15 : decode cM_written 15 = .ok (.iconst 0, 1) := by decide +kernel
theorem dM_written_16 : decode cM_written 16 = .ok (.putfield 69, 3) := by decide +kernel
theorem dM_written_19 : decode cM_written 19 = .ok (.iconst 0, 1) := by decide +kernel
theorem dM_written_20 : decode cM_written 20 = .ok (.istore_n 3, 1) := by decide +kernel
theorem dM_written_21 : decode cM_written 21 = .ok (.iload_n 3, 1) := by decide +kernel
theorem dM_written_22 : decode cM_written 22 = .ok (.aload_n 0, 1) := by decide +kernel
theorem dM_written_23 : decode cM_written 23 = .ok (.getfield 90, 3) := by decide +kernel
theorem dM_written_26 : decode cM_written 26 = .ok (.if_icmp .ge 122, 3) := by decide +kernel
theorem dM_written_29 : decode cM_written 29 = .ok (.iconst 0, 1) := by decide +kernel
theorem dM_written_30 : decode cM_written 30 = .ok (.istore 4, 2) := by decide +kernel
theorem dM_written_32 : decode cM_written 32 = .ok (.iconst 0, 1) := by decide +kernel
theorem dM_written_33 : decode cM_written 33 = .ok (.istore 5, 2) := by decide +kernel
theorem dM_written_35 : decode cM_written 35 = .ok (.iload 5, 2) := by decide +kernel
theorem dM_written_37 : decode cM_written 37 = .ok (.aload_n 0, 1) := by decide +kernel
theorem dM_written_38 : decode cM_written 38 = .ok (.getfield 90, 3) := by decide +kernel
theorem dM_written_41 : decode cM_written 41 = .ok (.if_icmp .ge 56, 3) := by decide +kernel
theorem dM_written_44 : decode cM_written 44 = .ok (.iload 4, 2) := by decide +kernel
theorem dM_written_46 : decode cM_written 46 = .ok (.aload_n 0, 1) := by decide +kernel
theorem dM_written_47 : decode cM_written 47 = .ok (.getfield 37, 3) := by decide +kernel
theorem dM_written_50 : decode cM_written 50 = .ok (.iload 5, 2) := by decide +kernel
theorem dM_written_52 : decode cM_written 52 = .ok (.iaload, 1) := by decide +kernel
theorem dM_written_53 : decode cM_written 53 = .ok (.iload_n 1, 1) := by decide +kernel
theorem dM_written_54 : decode cM_written 54 = .ok (.if_icmp .ne 33, 3) := by decide +kernel
theorem dM_written_57 : decode cM_written 57 = .ok (.aload_n 0, 1) := by decide +kernel
theorem dM_written_58 : decode cM_written 58 = .ok (.getfield 49, 3) := by decide +kernel
theorem dM_written_61 : decode cM_written 61 = .ok (.iload 5, 2) := by decide +kernel
theorem dM_written_63 : decode cM_written 63 = .ok (.baload, 1) := by decide +kernel
theorem dM_written_64 : decode cM_written 64 = .ok (.ifCond .ne 23, 3) := by decide +kernel
theorem dM_written_67 : decode cM_written 67 = .ok (.aload_n 0, 1) := by decide +kernel
theorem dM_written_68 : decode cM_written 68 = .ok (.getfield 56, 3) := by decide +kernel
theorem dM_written_71 : decode cM_written 71 = .ok (.iload 5, 2) := by decide +kernel
theorem dM_written_73 : decode cM_written 73 = .ok (.iaload, 1) := by decide +kernel
theorem dM_written_74 : decode cM_written 74 = .ok (.aload_n 0, 1) := by decide +kernel
theorem dM_written_75 : decode cM_written 75 = .ok (.getfield 56, 3) := by decide +kernel
theorem dM_written_78 : decode cM_written 78 = .ok (.iload_n 3, 1) := by decide +kernel
theorem dM_written_79 : decode cM_written 79 = .ok (.iaload, 1) := by decide +kernel
theorem dM_written_80 : decode cM_written 80 = .ok (.if_icmp .ge 7, 3) := by decide +kernel
theorem dM_written_83 : decode cM_written 83 = .ok (.iconst 1, 1) := by decide +kernel
theorem dM_written_84 : decode cM_written 84 = .ok (.goto 4, 3) := by decide +kernel
theorem dM_written_87 : decode cM_written 87 = .ok (.iconst 0, 1) := by decide +kernel
theorem dM_written_88 : decode cM_written 88 = .ok (.iadd, 1) := by decide +kernel
theorem dM_written_89 : decode cM_written 89 = .ok (.istore 4, 2) := by decide +kernel
theorem dM_written_91 : decode cM_written 91 = .ok (.iinc 5 1, 3) := by decide +kernel
theorem dM_written_94 : decode cM_written 94 = .ok (.goto (-59), 3) := by decide +kernel
theorem dM_written_97 : decode cM_written 97 = .ok (.aload_n 0, 1) := by decide +kernel
theorem dM_written_98 : decode cM_written 98 = .ok (.getfield 37, 3) := by decide +kernel
theorem dM_written_101 : decode cM_written 101 = .ok (.iload_n 3, 1) := by decide +kernel
theorem dM_written_102 : decode cM_written 102 = .ok (.iaload, 1) := by decide +kernel
theorem dM_written_103 : decode cM_written 103 = .ok (.iload_n 1, 1) := by decide +kernel
theorem dM_written_104 : decode cM_written 104 = .ok (.if_icmp .ne 38, 3) := by decide +kernel
theorem dM_written_107 : decode cM_written 107 = .ok (.aload_n 0, 1) := by decide +kernel
theorem dM_written_108 : decode cM_written 108 = .ok (.getfield 49, 3) := by decide +kernel
theorem dM_written_111 : decode cM_written 111 = .ok (.iload_n 3, 1) := by decide +kernel
theorem dM_written_112 : decode cM_written 112 = .ok (.baload, 1) := by decide +kernel
theorem dM_written_113 : decode cM_written 113 = .ok (.ifCond .ne 29, 3) := by decide +kernel
theorem dM_written_116 : decode cM_written 116 = .ok (.iload 4, 2) := by decide +kernel
theorem dM_written_118 : decode cM_written 118 = .ok (.iload_n 2, 1) := by decide +kernel
theorem dM_written_119 : decode cM_written 119 = .ok (.if_icmp .ne 23, 3) := by decide +kernel
theorem dM_written_122 : decode cM_written 122 = .ok (.bipush 16, 2) := by decide +kernel
theorem dM_written_124 : decode cM_written 124 = .ok (.aload_n 0, 1) := by decide +kernel
theorem dM_written_125 : decode cM_written 125 = .ok (.getfield 53, 3) := by decide +kernel
theorem dM_written_128 : decode cM_written 128 = .ok (.iload_n 3, 1) := by decide +kernel
theorem dM_written_129 : decode cM_written 129 = .ok (.iaload, 1) := by decide +kernel
theorem dM_written_130 : decode cM_written 130 = .ok (.bipush 8, 2) := by decide +kernel
theorem dM_written_132 : decode cM_written 132 = .ok (.iadd, 1) := by decide +kernel
theorem dM_written_133 : decode cM_written 133 = .ok (.imul, 1) := by decide +kernel
theorem dM_written_134 : decode cM_written 134 = .ok (.aload_n 0, 1) := by decide +kernel
theorem dM_written_135 : decode cM_written 135 = .ok (.getfield 40, 3) := by decide +kernel
theorem dM_written_138 : decode cM_written 138 = .ok (.iload_n 3, 1) := by decide +kernel
theorem dM_written_139 : decode cM_written 139 = .ok (.iaload, 1) := by decide +kernel
theorem dM_written_140 : decode cM_written 140 = .ok (.iadd, 1) := by decide +kernel
theorem dM_written_141 : decode cM_written 141 = .ok (.ireturn, 1) := by decide +kernel
theorem dM_written_142 : decode cM_written 142 = .ok (.iinc 3 1, 3) := by decide +kernel
theorem dM_written_145 : decode cM_written 145 = .ok (.goto (-124), 3) := by decide +kernel
theorem dM_written_148 : decode cM_written 148 = .ok (.iconst (-1), 1) := by decide +kernel
theorem dM_written_149 : decode cM_written 149 = .ok (.ireturn, 1) := by decide +kernel
theorem dM_of_0 : decode cM_of 0 = .ok (.iload_n 1, 1) := by decide +kernel
theorem dM_of_1 : decode cM_of 1 = .ok (.ifCond .lt 20, 3) := by decide +kernel
theorem dM_of_4 : decode cM_of 4 = .ok (.iload_n 1, 1) := by decide +kernel
theorem dM_of_5 : decode cM_of 5 = .ok (.aload_n 0, 1) := by decide +kernel
theorem dM_of_6 : decode cM_of 6 = .ok (.getfield 90, 3) := by decide +kernel
theorem dM_of_9 : decode cM_of 9 = .ok (.if_icmp .ge 12, 3) := by decide +kernel
theorem dM_of_12 : decode cM_of 12 = .ok (.iload_n 2, 1) := by decide +kernel
theorem dM_of_13 : decode cM_of 13 = .ok (.iconst 0, 1) := by decide +kernel
theorem dM_of_14 : decode cM_of 14 = .ok (.iconst 5, 1) := by decide +kernel
theorem dM_of_15 : decode cM_of 15 = .ok (.invokestatic 78, 3) := by decide +kernel
theorem dM_of_18 : decode cM_of 18 = .ok (.ifCond .ne 9, 3) := by decide +kernel
theorem dM_of_21 : decode cM_of 21 = .ok (.aload_n 0, 1) := by decide +kernel
theorem dM_of_22 : decode cM_of 22 = .ok (.iconst 1, 1) := by decide +kernel
theorem dM_of_23 : decode cM_of 23 = .ok (.invokevirtual 82, 3) := by decide +kernel
theorem dM_of_26 : decode cM_of 26 = .ok (.ireturn, 1) := by decide +kernel
theorem dM_of_27 : decode cM_of 27 = .ok (.aload_n 0, 1) := by decide +kernel
theorem dM_of_28 : decode cM_of 28 = .ok (.iconst 0, 1) := by decide +kernel
theorem dM_of_29 : decode cM_of 29 = .ok (.putfield 69, 3) := by decide +kernel
theorem dM_of_32 : decode cM_of 32 = .ok (.iload_n 2, 1) := by decide +kernel
theorem dM_of_33 : decode cM_of 33 = .ok (.tableswitch 78 0 4 #[35, 42, 49, 56, 63], 35) := by decide +kernel
theorem dM_of_68 : decode cM_of 68 = .ok (.aload_n 0, 1) := by decide +kernel
theorem dM_of_69 : decode cM_of 69 = .ok (.getfield 37, 3) := by decide +kernel
theorem dM_of_72 : decode cM_of 72 = .ok (.iload_n 1, 1) := by decide +kernel
theorem dM_of_73 : decode cM_of 73 = .ok (.iaload, 1) := by decide +kernel
theorem dM_of_74 : decode cM_of 74 = .ok (.ireturn, 1) := by decide +kernel
theorem dM_of_75 : decode cM_of 75 = .ok (.aload_n 0, 1) := by decide +kernel
theorem dM_of_76 : decode cM_of 76 = .ok (.getfield 40, 3) := by decide +kernel
theorem dM_of_79 : decode cM_of 79 = .ok (.iload_n 1, 1) := by decide +kernel
theorem dM_of_80 : decode cM_of 80 = .ok (.iaload, 1) := by decide +kernel
theorem dM_of_81 : decode cM_of 81 = .ok (.ireturn, 1) := by decide +kernel
theorem dM_of_82 : decode cM_of 82 = .ok (.aload_n 0, 1) := by decide +kernel
theorem dM_of_83 : decode cM_of 83 = .ok (.getfield 43, 3) := by decide +kernel
theorem dM_of_86 : decode cM_of 86 = .ok (.iload_n 1, 1) := by decide +kernel
theorem dM_of_87 : decode cM_of 87 = .ok (.iaload, 1) := by decide +kernel
theorem dM_of_88 : decode cM_of 88 = .ok (.ireturn, 1) := by decide +kernel
theorem dM_of_89 : decode cM_of 89 = .ok (.aload_n 0, 1) := by decide +kernel
theorem dM_of_90 : decode cM_of 90 = .ok (.getfield 46, 3) := by decide +kernel
theorem dM_of_93 : decode cM_of 93 = .ok (.iload_n 1, 1) := by decide +kernel
theorem dM_of_94 : decode cM_of 94 = .ok (.iaload, 1) := by decide +kernel
theorem dM_of_95 : decode cM_of 95 = .ok (.ireturn, 1) := by decide +kernel
theorem dM_of_96 : decode cM_of 96 = .ok (.aload_n 0, 1) := by decide +kernel
theorem dM_of_97 : decode cM_of 97 = .ok (.getfield 49, 3) := by decide +kernel
theorem dM_of_100 : decode cM_of 100 = .ok (.iload_n 1, 1) := by decide +kernel
theorem dM_of_101 : decode cM_of 101 = .ok (.baload, 1) := by decide +kernel
theorem dM_of_102 : decode cM_of 102 = .ok (.ifCond .eq 7, 3) := by decide +kernel
theorem dM_of_105 : decode cM_of 105 = .ok (.iconst 1, 1) := by decide +kernel
theorem dM_of_106 : decode cM_of 106 = .ok (.goto 4, 3) := by decide +kernel
theorem dM_of_109 : decode cM_of 109 = .ok (.iconst 0, 1) := by decide +kernel
theorem dM_of_110 : decode cM_of 110 = .ok (.ireturn, 1) := by decide +kernel
theorem dM_of_111 : decode cM_of 111 = .ok (.aload_n 0, 1) := by decide +kernel
theorem dM_of_112 : decode cM_of 112 = .ok (.getfield 53, 3) := by decide +kernel
theorem dM_of_115 : decode cM_of 115 = .ok (.iload_n 1, 1) := by decide +kernel
theorem dM_of_116 : decode cM_of 116 = .ok (.iaload, 1) := by decide +kernel
theorem dM_of_117 : decode cM_of 117 = .ok (.ireturn, 1) := by decide +kernel
theorem dM_count_0 : decode cM_count 0 = .ok (.aload_n 0, 1) := by decide +kernel
theorem dM_count_1 : decode cM_count 1 = .ok (.iconst 0, 1) := by decide +kernel
theorem dM_count_2 : decode cM_count 2 = .ok (.putfield 69, 3) := by decide +kernel
theorem dM_count_5 : decode cM_count 5 = .ok (.iload_n 1, 1) := by decide +kernel
theorem dM_count_6 : decode cM_count 6 = .ok (.bipush 10, 2) := by decide +kernel
theorem dM_count_8 : decode cM_count 8 = .ok (.if_icmp .lt 54, 3) := by decide +kernel
theorem dM_count_11 : decode cM_count 11 = .ok (.iconst 0, 1) := by decide +kernel
theorem dM_count_12 : decode cM_count 12 = .ok (.istore_n 2, 1) := by decide +kernel
theorem dM_count_13 : decode cM_count 13 = .ok (.iconst 0, 1) := by decide +kernel
theorem dM_count_14 : decode cM_count 14 = .ok (.istore_n 3, 1) := by decide +kernel
theorem dM_count_15 : decode cM_count 15 = .ok (.iload_n 3, 1) := by decide +kernel
theorem dM_count_16 : decode cM_count 16 = .ok (.aload_n 0, 1) := by decide +kernel
theorem dM_count_17 : decode cM_count 17 = .ok (.getfield 75, 3) := by decide +kernel
theorem dM_count_20 : decode cM_count 20 = .ok (.if_icmp .ge 30, 3) := by decide +kernel
theorem dM_count_23 : decode cM_count 23 = .ok (.iload_n 2, 1) := by decide +kernel
theorem dM_count_24 : decode cM_count 24 = .ok (.aload_n 0, 1) := by decide +kernel
theorem dM_count_25 : decode cM_count 25 = .ok (.getfield 19, 3) := by decide +kernel
theorem dM_count_28 : decode cM_count 28 = .ok (.iload_n 3, 1) := by decide +kernel
theorem dM_count_29 : decode cM_count 29 = .ok (.iaload, 1) := by decide +kernel
theorem dM_count_30 : decode cM_count 30 = .ok (.iload_n 1, 1) := by decide +kernel
theorem dM_count_31 : decode cM_count 31 = .ok (.bipush 10, 2) := by decide +kernel
theorem dM_count_33 : decode cM_count 33 = .ok (.isub, 1) := by decide +kernel
theorem dM_count_34 : decode cM_count 34 = .ok (.if_icmp .ne 7, 3) := by decide +kernel
theorem dM_count_37 : decode cM_count 37 = .ok (.iconst 1, 1) := by decide +kernel
theorem dM_count_38 : decode cM_count 38 = .ok (.goto 4, 3) := by decide +kernel
theorem dM_count_41 : decode cM_count 41 = .ok (.iconst 0, 1) := by decide +kernel
theorem dM_count_42 : decode cM_count 42 = .ok (.iadd, 1) := by decide +kernel
theorem dM_count_43 : decode cM_count 43 = .ok (.istore_n 2, 1) := by decide +kernel
theorem dM_count_44 : decode cM_count 44 = .ok (.iinc 3 1, 3) := by decide +kernel
theorem dM_count_47 : decode cM_count 47 = .ok (.goto (-32), 3) := by decide +kernel
theorem dM_count_50 : decode cM_count 50 = .ok (.iload_n 1, 1) := by decide +kernel
theorem dM_count_51 : decode cM_count 51 = .ok (.bipush 18, 2) := by decide +kernel
theorem dM_count_53 : decode cM_count 53 = .ok (.if_icmp .ge 7, 3) := by decide +kernel
theorem dM_count_56 : decode cM_count 56 = .ok (.iload_n 2, 1) := by decide +kernel
theorem dM_count_57 : decode cM_count 57 = .ok (.goto 4, 3) := by decide +kernel
theorem dM_count_60 : decode cM_count 60 = .ok (.iconst (-1), 1) := by decide +kernel
theorem dM_count_61 : decode cM_count 61 = .ok (.ireturn, 1) := by decide +kernel
theorem dM_count_62 : decode cM_count 62 = .ok (.iload_n 1, 1) := by decide +kernel
theorem dM_count_63 : decode cM_count 63 = .ok (.tableswitch 58 0 4 #[33, 38, 43, 48, 53], 33) := by decide +kernel
theorem dM_count_96 : decode cM_count 96 = .ok (.aload_n 0, 1) := by decide +kernel
theorem dM_count_97 : decode cM_count 97 = .ok (.getfield 72, 3) := by decide +kernel
theorem dM_count_100 : decode cM_count 100 = .ok (.ireturn, 1) := by decide +kernel
theorem dM_count_101 : decode cM_count 101 = .ok (.aload_n 0, 1) := by decide +kernel
theorem dM_count_102 : decode cM_count 102 = .ok (.getfield 75, 3) := by decide +kernel
theorem dM_count_105 : decode cM_count 105 = .ok (.ireturn, 1) := by decide +kernel
theorem dM_count_106 : decode cM_count 106 = .ok (.aload_n 0, 1) := by decide +kernel
theorem dM_count_107 : decode cM_count 107 = .ok (.getfield 90, 3) := by decide +kernel
theorem dM_count_110 : decode cM_count 110 = .ok (.ireturn, 1) := by decide +kernel
theorem dM_count_111 : decode cM_count 111 = .ok (.aload_n 0, 1) := by decide +kernel
theorem dM_count_112 : decode cM_count 112 = .ok (.invokevirtual 100, 3) := by decide +kernel
theorem dM_count_115 : decode cM_count 115 = .ok (.ireturn, 1) := by decide +kernel
theorem dM_count_116 : decode cM_count 116 = .ok (.aload_n 0, 1) := by decide +kernel
theorem dM_count_117 : decode cM_count 117 = .ok (.getfield 96, 3) := by decide +kernel
theorem dM_count_120 : decode cM_count 120 = .ok (.ireturn, 1) := by decide +kernel
theorem dM_count_121 : decode cM_count 121 = .ok (.iconst (-1), 1) := by decide +kernel
theorem dM_count_122 : decode cM_count 122 = .ok (.ireturn, 1) := by decide +kernel
