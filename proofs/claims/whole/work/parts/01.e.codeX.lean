theorem dX_init_0 : decode cX_init 0 = .ok (.aload_n 0, 1) := by decide +kernel
theorem dX_init_1 : decode cX_init 1 = .ok (.invokespecial 1, 3) := by decide +kernel
theorem dX_init_4 : decode cX_init 4 = .ok (.aload_n 0, 1) := by decide +kernel
theorem dX_init_5 : decode cX_init 5 = .ok (.bipush 12, 2) := by decide +kernel
theorem dX_init_7 : decode cX_init 7 = .ok (.newarray .int, 2) := by decide +kernel
theorem dX_init_9 : decode cX_init 9 = .ok (.putfield 9, 3) := by decide +kernel
theorem dX_init_12 : decode cX_init 12 = .ok (.aload_n 0, 1) := by decide +kernel
theorem dX_init_13 : decode cX_init 13 = .ok (.bipush 20, 2) := by decide +kernel
theorem dX_init_15 : decode cX_init 15 = .ok (.anewarray 13, 3) := by decide +kernel
theorem dX_init_18 : decode cX_init 18 = .ok (.putfield 15, 3) := by decide +kernel
theorem dX_init_21 : decode cX_init 21 = .ok (.aload_n 0, 1) := by decide +kernel
theorem dX_init_22 : decode cX_init 22 = .ok (.bipush 120, 2) := by decide +kernel
theorem dX_init_24 : decode cX_init 24 = .ok (.anewarray 19, 3) := by decide +kernel
theorem dX_init_27 : decode cX_init 27 = .ok (.putfield 21, 3) := by decide +kernel
theorem dX_init_30 : decode cX_init 30 = .ok (.aload_n 0, 1) := by decide +kernel
theorem dX_init_31 : decode cX_init 31 = .ok (.bipush 8, 2) := by decide +kernel
theorem dX_init_33 : decode cX_init 33 = .ok (.putfield 25, 3) := by decide +kernel
theorem dX_init_36 : decode cX_init 36 = .ok (.aload_n 0, 1) := by decide +kernel
theorem dX_init_37 : decode cX_init 37 = .ok (.bipush 16, 2) := by decide +kernel
theorem dX_init_39 : decode cX_init 39 = .ok (.putfield 29, 3) := by decide +kernel
theorem dX_init_42 : decode cX_init 42 = .ok (.return_, 1) := by decide +kernel
theorem dX_person_0 : decode cX_person 0 = .ok (.iload_n 1, 1) := by decide +kernel
theorem dX_person_1 : decode cX_person 1 = .ok (.iconst 2, 1) := by decide +kernel
theorem dX_person_2 : decode cX_person 2 = .ok (.invokestatic 32, 3) := by decide +kernel
theorem dX_person_5 : decode cX_person 5 = .ok (.ifCond .ne 13, 3) := by decide +kernel
theorem dX_person_8 : decode cX_person 8 = .ok (.new 36, 3) := by decide +kernel
theorem dX_person_11 : decode cX_person 11 = .ok (.dup, 1) := by decide +kernel
theorem dX_person_12 : decode cX_person 12 = .ok (.ldc 38, 2) := by decide +kernel
theorem dX_person_14 : decode cX_person 14 = .ok (.invokespecial 40, 3) := by decide +kernel
theorem dX_person_17 : decode cX_person 17 = .ok (.athrow, 1) := by decide +kernel
theorem dX_person_18 : decode cX_person 18 = .ok (.aload_n 0, 1) := by decide +kernel
theorem dX_person_19 : decode cX_person 19 = .ok (.getfield 43, 3) := by decide +kernel
theorem dX_person_22 : decode cX_person 22 = .ok (.bipush 12, 2) := by decide +kernel
theorem dX_person_24 : decode cX_person 24 = .ok (.if_icmp .lt 13, 3) := by decide +kernel
theorem dX_person_27 : decode cX_person 27 = .ok (.new 46, 3) := by decide +kernel
theorem dX_person_30 : decode cX_person 30 = .ok (.dup, 1) := by decide +kernel
theorem dX_person_31 : decode cX_person 31 = .ok (.ldc 48, 2) := by decide +kernel
theorem dX_person_33 : decode cX_person 33 = .ok (.invokespecial 50, 3) := by decide +kernel
theorem dX_person_36 : decode cX_person 36 = .ok (.athrow, 1) := by decide +kernel
theorem dX_person_37 : decode cX_person 37 = .ok (.aload_n 0, 1) := by decide +kernel
theorem dX_person_38 : decode cX_person 38 = .ok (.getfield 43, 3) := by decide +kernel
theorem dX_person_41 : decode cX_person 41 = .ok (.istore_n 2, 1) := by decide +kernel
theorem dX_person_42 : decode cX_person 42 = .ok (.aload_n 0, 1) := by decide +kernel
theorem dX_person_43 : decode cX_person 43 = .ok (.getfield 9, 3) := by decide +kernel
theorem dX_person_46 : decode cX_person 46 = .ok (.iload_n 2, 1) := by decide +kernel
theorem dX_person_47 : decode cX_person 47 = .ok (.iload_n 1, 1) := by decide +kernel
theorem dX_person_48 : decode cX_person 48 = .ok (.iastore, 1) := by decide +kernel
theorem dX_person_49 : decode cX_person 49 = .ok (.aload_n 0, 1) := by decide +kernel
theorem dX_person_50 : decode cX_person 50 = .ok (.iload_n 2, 1) := by decide +kernel
theorem dX_person_51 : decode cX_person 51 = .ok (.iconst 1, 1) := by decide +kernel
theorem dX_person_52 : decode cX_person 52 = .ok (.iadd, 1) := by decide +kernel
theorem dX_person_53 : decode cX_person 53 = .ok (.putfield 43, 3) := by decide +kernel
theorem dX_person_56 : decode cX_person 56 = .ok (.iload_n 2, 1) := by decide +kernel
theorem dX_person_57 : decode cX_person 57 = .ok (.ireturn, 1) := by decide +kernel
theorem dX_declaration_0 : decode cX_declaration 0 = .ok (.iload_n 1, 1) := by decide +kernel
theorem dX_declaration_1 : decode cX_declaration 1 = .ok (.iconst 2, 1) := by decide +kernel
theorem dX_declaration_2 : decode cX_declaration 2 = .ok (.invokestatic 32, 3) := by decide +kernel
theorem dX_declaration_5 : decode cX_declaration 5 = .ok (.ifCond .ne 13, 3) := by decide +kernel
theorem dX_declaration_8 : decode cX_declaration 8 = .ok (.new 36, 3) := by decide +kernel
theorem dX_declaration_11 : decode cX_declaration 11 = .ok (.dup, 1) := by decide +kernel
theorem dX_declaration_12 : decode cX_declaration 12 = .ok (.ldc 51, 2) := by decide +kernel
theorem dX_declaration_14 : decode cX_declaration 14 = .ok (.invokespecial 40, 3) := by decide +kernel
theorem dX_declaration_17 : decode cX_declaration 17 = .ok (.athrow, 1) := by decide +kernel
theorem dX_declaration_18 : decode cX_declaration 18 = .ok (.aload_n 0, 1) := by decide +kernel
theorem dX_declaration_19 : decode cX_declaration 19 = .ok (.iload_n 2, 1) := by decide +kernel
theorem dX_declaration_20 : decode cX_declaration 20 = .ok (.invokevirtual 53, 3) := by decide +kernel
theorem dX_declaration_23 : decode cX_declaration 23 = .ok (.ifCond .eq 13, 3) := by decide +kernel
theorem dX_declaration_26 : decode cX_declaration 26 = .ok (.new 36, 3) := by decide +kernel
theorem dX_declaration_29 : decode cX_declaration 29 = .ok (.dup, 1) := by decide +kernel
theorem dX_declaration_30 : decode cX_declaration 30 = .ok (.ldc 57, 2) := by decide +kernel
theorem dX_declaration_32 : decode cX_declaration 32 = .ok (.invokespecial 40, 3) := by decide +kernel
theorem dX_declaration_35 : decode cX_declaration 35 = .ok (.athrow, 1) := by decide +kernel
theorem dX_declaration_36 : decode cX_declaration 36 = .ok (.aload_n 0, 1) := by decide +kernel
theorem dX_declaration_37 : decode cX_declaration 37 = .ok (.getfield 59, 3) := by decide +kernel
theorem dX_declaration_40 : decode cX_declaration 40 = .ok (.bipush 20, 2) := by decide +kernel
theorem dX_declaration_42 : decode cX_declaration 42 = .ok (.if_icmp .lt 13, 3) := by decide +kernel
theorem dX_declaration_45 : decode cX_declaration 45 = .ok (.new 46, 3) := by decide +kernel
theorem dX_declaration_48 : decode cX_declaration 48 = .ok (.dup, 1) := by decide +kernel
theorem dX_declaration_49 : decode cX_declaration 49 = .ok (.ldc 62, 2) := by decide +kernel
theorem dX_declaration_51 : decode cX_declaration 51 = .ok (.invokespecial 50, 3) := by decide +kernel
theorem dX_declaration_54 : decode cX_declaration 54 = .ok (.athrow, 1) := by decide +kernel
theorem dX_declaration_55 : decode cX_declaration 55 = .ok (.aload_n 0, 1) := by decide +kernel
theorem dX_declaration_56 : decode cX_declaration 56 = .ok (.getfield 59, 3) := by decide +kernel
theorem dX_declaration_59 : decode cX_declaration 59 = .ok (.istore_n 3, 1) := by decide +kernel
theorem dX_declaration_60 : decode cX_declaration 60 = .ok (.aload_n 0, 1) := by decide +kernel
theorem dX_declaration_61 : decode cX_declaration 61 = .ok (.getfield 15, 3) := by decide +kernel
theorem dX_declaration_64 : decode cX_declaration 64 = .ok (.iload_n 3, 1) := by decide +kernel
theorem dX_declaration_65 : decode cX_declaration 65 = .ok (.new 13, 3) := by decide +kernel
theorem dX_declaration_68 : decode cX_declaration 68 = .ok (.dup, 1) := by decide +kernel
theorem dX_declaration_69 : decode cX_declaration 69 = .ok (.iload_n 3, 1) := by decide +kernel
theorem dX_declaration_70 : decode cX_declaration 70 = .ok (.iload_n 1, 1) := by decide +kernel
theorem dX_declaration_71 : decode cX_declaration 71 = .ok (.iload_n 2, 1) := by decide +kernel
theorem dX_declaration_72 : decode cX_declaration 72 = .ok (.invokespecial 64, 3) := by decide +kernel
theorem dX_declaration_75 : decode cX_declaration 75 = .ok (.aastore, 1) := by decide +kernel
theorem dX_declaration_76 : decode cX_declaration 76 = .ok (.aload_n 0, 1) := by decide +kernel
theorem dX_declaration_77 : decode cX_declaration 77 = .ok (.iload_n 3, 1) := by decide +kernel
theorem dX_declaration_78 : decode cX_declaration 78 = .ok (.iconst 1, 1) := by decide +kernel
theorem dX_declaration_79 : decode cX_declaration 79 = .ok (.iadd, 1) := by decide +kernel
theorem dX_declaration_80 : decode cX_declaration 80 = .ok (.putfield 59, 3) := by decide +kernel
theorem dX_declaration_83 : decode cX_declaration 83 = .ok (.iload_n 3, 1) := by decide +kernel
theorem dX_declaration_84 : decode cX_declaration 84 = .ok (.ireturn, 1) := by decide +kernel
theorem dX_event_0 : decode cX_event 0 = .ok (.aload_n 0, 1) := by decide +kernel
theorem dX_event_1 : decode cX_event 1 = .ok (.iload_n 1, 1) := by decide +kernel
theorem dX_event_2 : decode cX_event 2 = .ok (.invokevirtual 67, 3) := by decide +kernel
theorem dX_event_5 : decode cX_event 5 = .ok (.astore 5, 2) := by decide +kernel
theorem dX_event_7 : decode cX_event 7 = .ok (.aload 5, 2) := by decide +kernel
theorem dX_event_9 : decode cX_event 9 = .ok (.ifnull 20, 3) := by decide +kernel
theorem dX_event_12 : decode cX_event 12 = .ok (.iload_n 2, 1) := by decide +kernel
theorem dX_event_13 : decode cX_event 13 = .ok (.bipush 9, 2) := by decide +kernel
theorem dX_event_15 : decode cX_event 15 = .ok (.invokestatic 32, 3) := by decide +kernel
theorem dX_event_18 : decode cX_event 18 = .ok (.ifCond .eq 11, 3) := by decide +kernel
theorem dX_event_21 : decode cX_event 21 = .ok (.aload_n 0, 1) := by decide +kernel
theorem dX_event_22 : decode cX_event 22 = .ok (.iload_n 3, 1) := by decide +kernel
theorem dX_event_23 : decode cX_event 23 = .ok (.invokevirtual 71, 3) := by decide +kernel
theorem dX_event_26 : decode cX_event 26 = .ok (.ifCond .ne 13, 3) := by decide +kernel
theorem dX_event_29 : decode cX_event 29 = .ok (.new 36, 3) := by decide +kernel
theorem dX_event_32 : decode cX_event 32 = .ok (.dup, 1) := by decide +kernel
theorem dX_event_33 : decode cX_event 33 = .ok (.ldc 75, 2) := by decide +kernel
theorem dX_event_35 : decode cX_event 35 = .ok (.invokespecial 40, 3) := by decide +kernel
theorem dX_event_38 : decode cX_event 38 = .ok (.athrow, 1) := by decide +kernel
theorem dX_event_39 : decode cX_event 39 = .ok (.iload 4, 2) := by decide +kernel
theorem dX_event_41 : decode cX_event 41 = .ok (.aload_n 0, 1) := by decide +kernel
theorem dX_event_42 : decode cX_event 42 = .ok (.getfield 77, 3) := by decide +kernel
theorem dX_event_45 : decode cX_event 45 = .ok (.if_icmp .le 10, 3) := by decide +kernel
theorem dX_event_48 : decode cX_event 48 = .ok (.iload 4, 2) := by decide +kernel
theorem dX_event_50 : decode cX_event 50 = .ok (.ldc 80, 2) := by decide +kernel
theorem dX_event_52 : decode cX_event 52 = .ok (.if_icmp .le 13, 3) := by decide +kernel
theorem dX_event_55 : decode cX_event 55 = .ok (.new 36, 3) := by decide +kernel
theorem dX_event_58 : decode cX_event 58 = .ok (.dup, 1) := by decide +kernel
theorem dX_event_59 : decode cX_event 59 = .ok (.ldc 81, 2) := by decide +kernel
theorem dX_event_61 : decode cX_event 61 = .ok (.invokespecial 40, 3) := by decide +kernel
theorem dX_event_64 : decode cX_event 64 = .ok (.athrow, 1) := by decide +kernel
theorem dX_event_65 : decode cX_event 65 = .ok (.aload_n 0, 1) := by decide +kernel
theorem dX_event_66 : decode cX_event 66 = .ok (.getfield 83, 3) := by decide +kernel
theorem dX_event_69 : decode cX_event 69 = .ok (.bipush 120, 2) := by decide +kernel
theorem dX_event_71 : decode cX_event 71 = .ok (.if_icmp .ge 12, 3) := by decide +kernel
theorem dX_event_74 : decode cX_event 74 = .ok (.aload_n 0, 1) := by decide +kernel
theorem dX_event_75 : decode cX_event 75 = .ok (.getfield 86, 3) := by decide +kernel
theorem dX_event_78 : decode cX_event 78 = .ok (.bipush 20, 2) := by decide +kernel
theorem dX_event_80 : decode cX_event 80 = .ok (.if_icmp .lt 13, 3) := by decide +kernel
theorem dX_event_83 : decode cX_event 83 = .ok (.new 46, 3) := by decide +kernel
theorem dX_event_86 : decode cX_event 86 = .ok (.dup, 1) := by decide +kernel
theorem dX_event_87 : decode cX_event 87 = .ok (.ldc 89, 2) := by decide +kernel
theorem dX_event_89 : decode cX_event 89 = .ok (.invokespecial 50, 3) := by decide +kernel
theorem dX_event_92 : decode cX_event 92 = .ok (.athrow, 1) := by decide +kernel
theorem dX_event_93 : decode cX_event 93 = .ok (.aload_n 0, 1) := by decide +kernel
theorem dX_event_94 : decode cX_event 94 = .ok (.getfield 83, 3) := by decide +kernel
theorem dX_event_97 : decode cX_event 97 = .ok (.istore 6, 2) := by decide +kernel
theorem dX_event_99 : decode cX_event 99 = .ok (.new 19, 3) := by decide +kernel
theorem dX_event_102 : decode cX_event 102 = .ok (.dup, 1) := by decide +kernel
theorem dX_event_103 : decode cX_event 103 = .ok (.aload 5, 2) := by decide +kernel
theorem dX_event_105 : decode cX_event 105 = .ok (.iload_n 2, 1) := by decide +kernel
theorem dX_event_106 : decode cX_event 106 = .ok (.iload_n 3, 1) := by decide +kernel
theorem dX_event_107 : decode cX_event 107 = .ok (.iload 4, 2) := by decide +kernel
theorem dX_event_109 : decode cX_event 109 = .ok (.invokespecial 91, 3) := by decide +kernel
theorem dX_event_112 : decode cX_event 112 = .ok (.astore 7, 2) := by decide +kernel
theorem dX_event_114 : decode cX_event 114 = .ok (.aload_n 0, 1) := by decide +kernel
theorem dX_event_115 : decode cX_event 115 = .ok (.getfield 21, 3) := by decide +kernel
theorem dX_event_118 : decode cX_event 118 = .ok (.iload 6, 2) := by decide +kernel
theorem dX_event_120 : decode cX_event 120 = .ok (.aload 7, 2) := by decide +kernel
theorem dX_event_122 : decode cX_event 122 = .ok (.aastore, 1) := by decide +kernel
theorem dX_event_123 : decode cX_event 123 = .ok (.aload_n 0, 1) := by decide +kernel
theorem dX_event_124 : decode cX_event 124 = .ok (.iload 6, 2) := by decide +kernel
theorem dX_event_126 : decode cX_event 126 = .ok (.iconst 1, 1) := by decide +kernel
theorem dX_event_127 : decode cX_event 127 = .ok (.iadd, 1) := by decide +kernel
theorem dX_event_128 : decode cX_event 128 = .ok (.putfield 83, 3) := by decide +kernel
theorem dX_event_131 : decode cX_event 131 = .ok (.aload_n 0, 1) := by decide +kernel
theorem dX_event_132 : decode cX_event 132 = .ok (.aload 7, 2) := by decide +kernel
theorem dX_event_134 : decode cX_event 134 = .ok (.invokevirtual 94, 3) := by decide +kernel
theorem dX_event_137 : decode cX_event 137 = .ok (.iload 6, 2) := by decide +kernel
theorem dX_event_139 : decode cX_event 139 = .ok (.ireturn, 1) := by decide +kernel
theorem dX_tick_0 : decode cX_tick 0 = .ok (.iload_n 1, 1) := by decide +kernel
theorem dX_tick_1 : decode cX_tick 1 = .ok (.aload_n 0, 1) := by decide +kernel
theorem dX_tick_2 : decode cX_tick 2 = .ok (.getfield 77, 3) := by decide +kernel
theorem dX_tick_5 : decode cX_tick 5 = .ok (.if_icmp .lt 9, 3) := by decide +kernel
theorem dX_tick_8 : decode cX_tick 8 = .ok (.iload_n 1, 1) := by decide +kernel
theorem dX_tick_9 : decode cX_tick 9 = .ok (.ldc 80, 2) := by decide +kernel
theorem dX_tick_11 : decode cX_tick 11 = .ok (.if_icmp .le 13, 3) := by decide +kernel
theorem dX_tick_14 : decode cX_tick 14 = .ok (.new 36, 3) := by decide +kernel
theorem dX_tick_17 : decode cX_tick 17 = .ok (.dup, 1) := by decide +kernel
theorem dX_tick_18 : decode cX_tick 18 = .ok (.ldc 98, 2) := by decide +kernel
theorem dX_tick_20 : decode cX_tick 20 = .ok (.invokespecial 40, 3) := by decide +kernel
theorem dX_tick_23 : decode cX_tick 23 = .ok (.athrow, 1) := by decide +kernel
theorem dX_tick_24 : decode cX_tick 24 = .ok (.iconst 0, 1) := by decide +kernel
theorem dX_tick_25 : decode cX_tick 25 = .ok (.istore_n 2, 1) := by decide +kernel
theorem dX_tick_26 : decode cX_tick 26 = .ok (.aload_n 0, 1) := by decide +kernel
theorem dX_tick_27 : decode cX_tick 27 = .ok (.getfield 100, 3) := by decide +kernel
theorem dX_tick_30 : decode cX_tick 30 = .ok (.astore_n 3, 1) := by decide +kernel
theorem dX_tick_31 : decode cX_tick 31 = .ok (.aload_n 3, 1) := by decide +kernel
theorem dX_tick_32 : decode cX_tick 32 = .ok (.ifnull 51, 3) := by decide +kernel
theorem dX_tick_35 : decode cX_tick 35 = .ok (.aload_n 3, 1) := by decide +kernel
theorem dX_tick_36 : decode cX_tick 36 = .ok (.getfield 104, 3) := by decide +kernel
theorem dX_tick_39 : decode cX_tick 39 = .ok (.iload_n 1, 1) := by decide +kernel
theorem dX_tick_40 : decode cX_tick 40 = .ok (.if_icmp .gt 43, 3) := by decide +kernel
theorem dX_tick_43 : decode cX_tick 43 = .ok (.iload_n 2, 1) := by decide +kernel
theorem dX_tick_44 : decode cX_tick 44 = .ok (.bipush 20, 2) := by decide +kernel
theorem dX_tick_46 : decode cX_tick 46 = .ok (.if_icmp .ge 37, 3) := by decide +kernel
theorem dX_tick_49 : decode cX_tick 49 = .ok (.aload_n 0, 1) := by decide +kernel
theorem dX_tick_50 : decode cX_tick 50 = .ok (.aload_n 3, 1) := by decide +kernel
theorem dX_tick_51 : decode cX_tick 51 = .ok (.getfield 107, 3) := by decide +kernel
theorem dX_tick_54 : decode cX_tick 54 = .ok (.putfield 100, 3) := by decide +kernel
theorem dX_tick_57 : decode cX_tick 57 = .ok (.aload_n 0, 1) := by decide +kernel
theorem dX_tick_58 : decode cX_tick 58 = .ok (.dup, 1) := by decide +kernel
theorem dX_tick_59 : decode cX_tick 59 = .ok (.getfield 86, 3) := by decide +kernel
theorem dX_tick_62 : decode cX_tick 62 = .ok (.iconst 1, 1) := by decide +kernel
theorem dX_tick_63 : decode cX_tick 63 = .ok (.isub, 1) := by decide +kernel
theorem dX_tick_64 : decode cX_tick 64 = .ok (.putfield 86, 3) := by decide +kernel
theorem dX_tick_67 : decode cX_tick 67 = .ok (.aload_n 0, 1) := by decide +kernel
theorem dX_tick_68 : decode cX_tick 68 = .ok (.aload_n 3, 1) := by decide +kernel
theorem dX_tick_69 : decode cX_tick 69 = .ok (.invokevirtual 110, 3) := by decide +kernel
theorem dX_tick_72 : decode cX_tick 72 = .ok (.iinc 2 1, 3) := by decide +kernel
theorem dX_tick_75 : decode cX_tick 75 = .ok (.aload_n 0, 1) := by decide +kernel
theorem dX_tick_76 : decode cX_tick 76 = .ok (.getfield 100, 3) := by decide +kernel
theorem dX_tick_79 : decode cX_tick 79 = .ok (.astore_n 3, 1) := by decide +kernel
theorem dX_tick_80 : decode cX_tick 80 = .ok (.goto (-49), 3) := by decide +kernel
theorem dX_tick_83 : decode cX_tick 83 = .ok (.aload_n 0, 1) := by decide +kernel
theorem dX_tick_84 : decode cX_tick 84 = .ok (.iload_n 1, 1) := by decide +kernel
theorem dX_tick_85 : decode cX_tick 85 = .ok (.putfield 77, 3) := by decide +kernel
theorem dX_tick_88 : decode cX_tick 88 = .ok (.iload_n 2, 1) := by decide +kernel
theorem dX_tick_89 : decode cX_tick 89 = .ok (.ireturn, 1) := by decide +kernel
theorem dX_hours_0 : decode cX_hours 0 = .ok (.iload_n 1, 1) := by decide +kernel
theorem dX_hours_1 : decode cX_hours 1 = .ok (.ifCond .lt 14, 3) := by decide +kernel
theorem dX_hours_4 : decode cX_hours 4 = .ok (.iload_n 2, 1) := by decide +kernel
theorem dX_hours_5 : decode cX_hours 5 = .ok (.bipush 24, 2) := by decide +kernel
theorem dX_hours_7 : decode cX_hours 7 = .ok (.if_icmp .gt 8, 3) := by decide +kernel
theorem dX_hours_10 : decode cX_hours 10 = .ok (.iload_n 1, 1) := by decide +kernel
theorem dX_hours_11 : decode cX_hours 11 = .ok (.iload_n 2, 1) := by decide +kernel
theorem dX_hours_12 : decode cX_hours 12 = .ok (.if_icmp .lt 5, 3) := by decide +kernel
theorem dX_hours_15 : decode cX_hours 15 = .ok (.iconst 0, 1) := by decide +kernel
theorem dX_hours_16 : decode cX_hours 16 = .ok (.ireturn, 1) := by decide +kernel
theorem dX_hours_17 : decode cX_hours 17 = .ok (.aload_n 0, 1) := by decide +kernel
theorem dX_hours_18 : decode cX_hours 18 = .ok (.iload_n 1, 1) := by decide +kernel
theorem dX_hours_19 : decode cX_hours 19 = .ok (.putfield 25, 3) := by decide +kernel
theorem dX_hours_22 : decode cX_hours 22 = .ok (.aload_n 0, 1) := by decide +kernel
theorem dX_hours_23 : decode cX_hours 23 = .ok (.iload_n 2, 1) := by decide +kernel
theorem dX_hours_24 : decode cX_hours 24 = .ok (.putfield 29, 3) := by decide +kernel
theorem dX_hours_27 : decode cX_hours 27 = .ok (.iconst 1, 1) := by decide +kernel
theorem dX_hours_28 : decode cX_hours 28 = .ok (.ireturn, 1) := by decide +kernel
theorem dX_fails_0 : decode cX_fails 0 = .ok (.iload_n 1, 1) := by decide +kernel
theorem dX_fails_1 : decode cX_fails 1 = .ok (.bipush 9, 2) := by decide +kernel
theorem dX_fails_3 : decode cX_fails 3 = .ok (.invokestatic 32, 3) := by decide +kernel
theorem dX_fails_6 : decode cX_fails 6 = .ok (.ifCond .eq 12, 3) := by decide +kernel
theorem dX_fails_9 : decode cX_fails 9 = .ok (.aload_n 0, 1) := by decide +kernel
theorem dX_fails_10 : decode cX_fails 10 = .ok (.iload_n 1, 1) := by decide +kernel
theorem dX_fails_11 : decode cX_fails 11 = .ok (.invokevirtual 113, 3) := by decide +kernel
theorem dX_fails_14 : decode cX_fails 14 = .ok (.iload_n 2, 1) := by decide +kernel
theorem dX_fails_15 : decode cX_fails 15 = .ok (.if_icmp .ne 5, 3) := by decide +kernel
theorem dX_fails_18 : decode cX_fails 18 = .ok (.iconst 0, 1) := by decide +kernel
theorem dX_fails_19 : decode cX_fails 19 = .ok (.ireturn, 1) := by decide +kernel
theorem dX_fails_20 : decode cX_fails 20 = .ok (.aload_n 0, 1) := by decide +kernel
theorem dX_fails_21 : decode cX_fails 21 = .ok (.dup, 1) := by decide +kernel
theorem dX_fails_22 : decode cX_fails 22 = .ok (.getfield 116, 3) := by decide +kernel
theorem dX_fails_25 : decode cX_fails 25 = .ok (.iconst 1, 1) := by decide +kernel
theorem dX_fails_26 : decode cX_fails 26 = .ok (.iload_n 1, 1) := by decide +kernel
theorem dX_fails_27 : decode cX_fails 27 = .ok (.ishl, 1) := by decide +kernel
theorem dX_fails_28 : decode cX_fails 28 = .ok (.ixor, 1) := by decide +kernel
theorem dX_fails_29 : decode cX_fails 29 = .ok (.putfield 116, 3) := by decide +kernel
theorem dX_fails_32 : decode cX_fails 32 = .ok (.iconst 1, 1) := by decide +kernel
theorem dX_fails_33 : decode cX_fails 33 = .ok (.ireturn, 1) := by decide +kernel
theorem dX_bar_0 : decode cX_bar 0 = .ok (.aload_n 0, 1) := by decide +kernel
theorem dX_bar_1 : decode cX_bar 1 = .ok (.iload_n 1, 1) := by decide +kernel
theorem dX_bar_2 : decode cX_bar 2 = .ok (.invokevirtual 67, 3) := by decide +kernel
theorem dX_bar_5 : decode cX_bar 5 = .ok (.astore 4, 2) := by decide +kernel
theorem dX_bar_7 : decode cX_bar 7 = .ok (.aload 4, 2) := by decide +kernel
theorem dX_bar_9 : decode cX_bar 9 = .ok (.ifnull 12, 3) := by decide +kernel
theorem dX_bar_12 : decode cX_bar 12 = .ok (.iload_n 2, 1) := by decide +kernel
theorem dX_bar_13 : decode cX_bar 13 = .ok (.bipush 7, 2) := by decide +kernel
theorem dX_bar_15 : decode cX_bar 15 = .ok (.invokestatic 32, 3) := by decide +kernel
theorem dX_bar_18 : decode cX_bar 18 = .ok (.ifCond .ne 13, 3) := by decide +kernel
theorem dX_bar_21 : decode cX_bar 21 = .ok (.new 36, 3) := by decide +kernel
theorem dX_bar_24 : decode cX_bar 24 = .ok (.dup, 1) := by decide +kernel
theorem dX_bar_25 : decode cX_bar 25 = .ok (.ldc 119, 2) := by decide +kernel
theorem dX_bar_27 : decode cX_bar 27 = .ok (.invokespecial 40, 3) := by decide +kernel
theorem dX_bar_30 : decode cX_bar 30 = .ok (.athrow, 1) := by decide +kernel
theorem dX_bar_31 : decode cX_bar 31 = .ok (.aload 4, 2) := by decide +kernel
theorem dX_bar_33 : decode cX_bar 33 = .ok (.invokevirtual 121, 3) := by decide +kernel
theorem dX_bar_36 : decode cX_bar 36 = .ok (.ifCond .ne 13, 3) := by decide +kernel
theorem dX_bar_39 : decode cX_bar 39 = .ok (.aload 4, 2) := by decide +kernel
theorem dX_bar_41 : decode cX_bar 41 = .ok (.iload_n 2, 1) := by decide +kernel
theorem dX_bar_42 : decode cX_bar 42 = .ok (.invokevirtual 125, 3) := by decide +kernel
theorem dX_bar_45 : decode cX_bar 45 = .ok (.iload_n 3, 1) := by decide +kernel
theorem dX_bar_46 : decode cX_bar 46 = .ok (.if_icmp .ne 5, 3) := by decide +kernel
theorem dX_bar_49 : decode cX_bar 49 = .ok (.iconst (-1), 1) := by decide +kernel
theorem dX_bar_50 : decode cX_bar 50 = .ok (.ireturn, 1) := by decide +kernel
theorem dX_bar_51 : decode cX_bar 51 = .ok (.aload 4, 2) := by decide +kernel
theorem dX_bar_53 : decode cX_bar 53 = .ok (.dup, 1) := by decide +kernel
theorem dX_bar_54 : decode cX_bar 54 = .ok (.getfield 128, 3) := by decide +kernel
theorem dX_bar_57 : decode cX_bar 57 = .ok (.iconst 1, 1) := by decide +kernel
theorem dX_bar_58 : decode cX_bar 58 = .ok (.iload_n 2, 1) := by decide +kernel
theorem dX_bar_59 : decode cX_bar 59 = .ok (.ishl, 1) := by decide +kernel
theorem dX_bar_60 : decode cX_bar 60 = .ok (.ixor, 1) := by decide +kernel
theorem dX_bar_61 : decode cX_bar 61 = .ok (.putfield 128, 3) := by decide +kernel
theorem dX_bar_64 : decode cX_bar 64 = .ok (.iload_n 3, 1) := by decide +kernel
theorem dX_bar_65 : decode cX_bar 65 = .ok (.ifCond .ne 12, 3) := by decide +kernel
theorem dX_bar_68 : decode cX_bar 68 = .ok (.aload 4, 2) := by decide +kernel
theorem dX_bar_70 : decode cX_bar 70 = .ok (.aload_n 0, 1) := by decide +kernel
theorem dX_bar_71 : decode cX_bar 71 = .ok (.getfield 77, 3) := by decide +kernel
theorem dX_bar_74 : decode cX_bar 74 = .ok (.invokevirtual 131, 3) := by decide +kernel
theorem dX_bar_77 : decode cX_bar 77 = .ok (.aload 4, 2) := by decide +kernel
theorem dX_bar_79 : decode cX_bar 79 = .ok (.getfield 128, 3) := by decide +kernel
theorem dX_bar_82 : decode cX_bar 82 = .ok (.invokestatic 135, 3) := by decide +kernel
theorem dX_bar_85 : decode cX_bar 85 = .ok (.ireturn, 1) := by decide +kernel
theorem dX_invalidate_0 : decode cX_invalidate 0 = .ok (.aload_n 0, 1) := by decide +kernel
theorem dX_invalidate_1 : decode cX_invalidate 1 = .ok (.iload_n 1, 1) := by decide +kernel
theorem dX_invalidate_2 : decode cX_invalidate 2 = .ok (.invokevirtual 67, 3) := by decide +kernel
theorem dX_invalidate_5 : decode cX_invalidate 5 = .ok (.astore 4, 2) := by decide +kernel
theorem dX_invalidate_7 : decode cX_invalidate 7 = .ok (.aload 4, 2) := by decide +kernel
theorem dX_invalidate_9 : decode cX_invalidate 9 = .ok (.ifnull 20, 3) := by decide +kernel
theorem dX_invalidate_12 : decode cX_invalidate 12 = .ok (.aload_n 0, 1) := by decide +kernel
theorem dX_invalidate_13 : decode cX_invalidate 13 = .ok (.iload_n 2, 1) := by decide +kernel
theorem dX_invalidate_14 : decode cX_invalidate 14 = .ok (.invokevirtual 71, 3) := by decide +kernel
theorem dX_invalidate_17 : decode cX_invalidate 17 = .ok (.ifCond .eq 12, 3) := by decide +kernel
theorem dX_invalidate_20 : decode cX_invalidate 20 = .ok (.iload_n 3, 1) := by decide +kernel
theorem dX_invalidate_21 : decode cX_invalidate 21 = .ok (.bipush 9, 2) := by decide +kernel
theorem dX_invalidate_23 : decode cX_invalidate 23 = .ok (.invokestatic 32, 3) := by decide +kernel
theorem dX_invalidate_26 : decode cX_invalidate 26 = .ok (.ifCond .ne 13, 3) := by decide +kernel
theorem dX_invalidate_29 : decode cX_invalidate 29 = .ok (.new 36, 3) := by decide +kernel
theorem dX_invalidate_32 : decode cX_invalidate 32 = .ok (.dup, 1) := by decide +kernel
theorem dX_invalidate_33 : decode cX_invalidate 33 = .ok (.ldc 140, 2) := by decide +kernel
theorem dX_invalidate_35 : decode cX_invalidate 35 = .ok (.invokespecial 40, 3) := by decide +kernel
theorem dX_invalidate_38 : decode cX_invalidate 38 = .ok (.athrow, 1) := by decide +kernel
theorem dX_invalidate_39 : decode cX_invalidate 39 = .ok (.aload_n 0, 1) := by decide +kernel
theorem dX_invalidate_40 : decode cX_invalidate 40 = .ok (.iload_n 2, 1) := by decide +kernel
theorem dX_invalidate_41 : decode cX_invalidate 41 = .ok (.invokevirtual 53, 3) := by decide +kernel
theorem dX_invalidate_44 : decode cX_invalidate 44 = .ok (.iconst 1, 1) := by decide +kernel
theorem dX_invalidate_45 : decode cX_invalidate 45 = .ok (.if_icmp .eq 5, 3) := by decide +kernel
theorem dX_invalidate_48 : decode cX_invalidate 48 = .ok (.iconst 0, 1) := by decide +kernel
theorem dX_invalidate_49 : decode cX_invalidate 49 = .ok (.ireturn, 1) := by decide +kernel
theorem dX_invalidate_50 : decode cX_invalidate 50 = .ok (.aload 4, 2) := by decide +kernel
theorem dX_invalidate_52 : decode cX_invalidate 52 = .ok (.iload_n 2, 1) := by decide +kernel
theorem dX_invalidate_53 : decode cX_invalidate 53 = .ok (.iload_n 3, 1) := by decide +kernel
theorem dX_invalidate_54 : decode cX_invalidate 54 = .ok (.aload_n 0, 1) := by decide +kernel
theorem dX_invalidate_55 : decode cX_invalidate 55 = .ok (.getfield 77, 3) := by decide +kernel
theorem dX_invalidate_58 : decode cX_invalidate 58 = .ok (.invokevirtual 142, 3) := by decide +kernel
theorem dX_invalidate_61 : decode cX_invalidate 61 = .ok (.ireturn, 1) := by decide +kernel
theorem dX_look_0 : decode cX_look 0 = .ok (.aload_n 0, 1) := by decide +kernel
theorem dX_look_1 : decode cX_look 1 = .ok (.iload_n 1, 1) := by decide +kernel
theorem dX_look_2 : decode cX_look 2 = .ok (.invokevirtual 67, 3) := by decide +kernel
theorem dX_look_5 : decode cX_look 5 = .ok (.astore_n 3, 1) := by decide +kernel
theorem dX_look_6 : decode cX_look 6 = .ok (.aload_n 3, 1) := by decide +kernel
theorem dX_look_7 : decode cX_look 7 = .ok (.ifnonnull 13, 3) := by decide +kernel
theorem dX_look_10 : decode cX_look 10 = .ok (.new 146, 3) := by decide +kernel
theorem dX_look_13 : decode cX_look 13 = .ok (.dup, 1) := by decide +kernel
theorem dX_look_14 : decode cX_look 14 = .ok (.ldc 148, 2) := by decide +kernel
theorem dX_look_16 : decode cX_look 16 = .ok (.invokespecial 150, 3) := by decide +kernel
theorem dX_look_19 : decode cX_look 19 = .ok (.athrow, 1) := by decide +kernel
theorem dX_look_20 : decode cX_look 20 = .ok (.iload_n 2, 1) := by decide +kernel
theorem dX_look_21 : decode cX_look 21 = .ok (.tableswitch 96 0 8 #[51, 56, 61, 66, 71, 76, 81, 86, 91], 51) := by decide +kernel
theorem dX_look_72 : decode cX_look 72 = .ok (.aload_n 3, 1) := by decide +kernel
theorem dX_look_73 : decode cX_look 73 = .ok (.getfield 151, 3) := by decide +kernel
theorem dX_look_76 : decode cX_look 76 = .ok (.ireturn, 1) := by decide +kernel
theorem dX_look_77 : decode cX_look 77 = .ok (.aload_n 3, 1) := by decide +kernel
theorem dX_look_78 : decode cX_look 78 = .ok (.getfield 154, 3) := by decide +kernel
theorem dX_look_81 : decode cX_look 81 = .ok (.ireturn, 1) := by decide +kernel
theorem dX_look_82 : decode cX_look 82 = .ok (.aload_n 3, 1) := by decide +kernel
theorem dX_look_83 : decode cX_look 83 = .ok (.getfield 157, 3) := by decide +kernel
theorem dX_look_86 : decode cX_look 86 = .ok (.ireturn, 1) := by decide +kernel
theorem dX_look_87 : decode cX_look 87 = .ok (.aload_n 3, 1) := by decide +kernel
theorem dX_look_88 : decode cX_look 88 = .ok (.getfield 160, 3) := by decide +kernel
theorem dX_look_91 : decode cX_look 91 = .ok (.ireturn, 1) := by decide +kernel
theorem dX_look_92 : decode cX_look 92 = .ok (.aload_n 3, 1) := by decide +kernel
theorem dX_look_93 : decode cX_look 93 = .ok (.getfield 128, 3) := by decide +kernel
theorem dX_look_96 : decode cX_look 96 = .ok (.ireturn, 1) := by decide +kernel
theorem dX_look_97 : decode cX_look 97 = .ok (.aload_n 3, 1) := by decide +kernel
theorem dX_look_98 : decode cX_look 98 = .ok (.getfield 163, 3) := by decide +kernel
theorem dX_look_101 : decode cX_look 101 = .ok (.ireturn, 1) := by decide +kernel
theorem dX_look_102 : decode cX_look 102 = .ok (.aload_n 3, 1) := by decide +kernel
theorem dX_look_103 : decode cX_look 103 = .ok (.getfield 166, 3) := by decide +kernel
theorem dX_look_106 : decode cX_look 106 = .ok (.ireturn, 1) := by decide +kernel
theorem dX_look_107 : decode cX_look 107 = .ok (.aload_n 3, 1) := by decide +kernel
theorem dX_look_108 : decode cX_look 108 = .ok (.getfield 169, 3) := by decide +kernel
theorem dX_look_111 : decode cX_look 111 = .ok (.ireturn, 1) := by decide +kernel
theorem dX_look_112 : decode cX_look 112 = .ok (.aload_n 3, 1) := by decide +kernel
theorem dX_look_113 : decode cX_look 113 = .ok (.getfield 172, 3) := by decide +kernel
theorem dX_look_116 : decode cX_look 116 = .ok (.ireturn, 1) := by decide +kernel
theorem dX_look_117 : decode cX_look 117 = .ok (.new 146, 3) := by decide +kernel
theorem dX_look_120 : decode cX_look 120 = .ok (.dup, 1) := by decide +kernel
theorem dX_look_121 : decode cX_look 121 = .ok (.ldc 175, 2) := by decide +kernel
theorem dX_look_123 : decode cX_look 123 = .ok (.invokespecial 150, 3) := by decide +kernel
theorem dX_look_126 : decode cX_look 126 = .ok (.athrow, 1) := by decide +kernel
theorem dX_written_0 : decode cX_written 0 = .ok (.aload_n 0, 1) := by decide +kernel
theorem dX_written_1 : decode cX_written 1 = .ok (.iload_n 1, 1) := by decide +kernel
theorem dX_written_2 : decode cX_written 2 = .ok (.invokevirtual 67, 3) := by decide +kernel
theorem dX_written_5 : decode cX_written 5 = .ok (.astore_n 3, 1) := by decide +kernel
theorem dX_written_6 : decode cX_written 6 = .ok (.aload_n 3, 1) := by decide +kernel
theorem dX_written_7 : decode cX_written 7 = .ok (.ifnonnull 13, 3) := by decide +kernel
theorem dX_written_10 : decode cX_written 10 = .ok (.new 36, 3) := by decide +kernel
theorem dX_written_13 : decode cX_written 13 = .ok (.dup, 1) := by decide +kernel
theorem dX_written_14 : decode cX_written 14 = .ok (.ldc 148, 2) := by decide +kernel
theorem dX_written_16 : decode cX_written 16 = .ok (.invokespecial 40, 3) := by decide +kernel
theorem dX_written_19 : decode cX_written 19 = .ok (.athrow, 1) := by decide +kernel
theorem dX_written_20 : decode cX_written 20 = .ok (.aload_n 3, 1) := by decide +kernel
theorem dX_written_21 : decode cX_written 21 = .ok (.iload_n 2, 1) := by decide +kernel
theorem dX_written_22 : decode cX_written 22 = .ok (.invokevirtual 177, 3) := by decide +kernel
theorem dX_written_25 : decode cX_written 25 = .ok (.astore 4, 2) := by decide +kernel
theorem dX_written_27 : decode cX_written 27 = .ok (.aload 4, 2) := by decide +kernel
theorem dX_written_29 : decode cX_written 29 = .ok (.ifnonnull 7, 3) := by decide +kernel
theorem dX_written_32 : decode cX_written 32 = .ok (.iconst (-1), 1) := by decide +kernel
theorem dX_written_33 : decode cX_written 33 = .ok (.goto 20, 3) := by decide +kernel
theorem dX_written_36 : decode cX_written 36 = .ok (.bipush 16, 2) := by decide +kernel
theorem dX_written_38 : decode cX_written 38 = .ok (.aload 4, 2) := by decide +kernel
theorem dX_written_40 : decode cX_written 40 = .ok (.getfield 181, 3) := by decide +kernel
theorem dX_written_43 : decode cX_written 43 = .ok (.bipush 8, 2) := by decide +kernel
theorem dX_written_45 : decode cX_written 45 = .ok (.iadd, 1) := by decide +kernel
theorem dX_written_46 : decode cX_written 46 = .ok (.imul, 1) := by decide +kernel
theorem dX_written_47 : decode cX_written 47 = .ok (.aload 4, 2) := by decide +kernel
theorem dX_written_49 : decode cX_written 49 = .ok (.getfield 184, 3) := by decide +kernel
theorem dX_written_52 : decode cX_written 52 = .ok (.iadd, 1) := by decide +kernel
theorem dX_written_53 : decode cX_written 53 = .ok (.ireturn, 1) := by decide +kernel
theorem dX_of_0 : decode cX_of 0 = .ok (.aload_n 0, 1) := by decide +kernel
theorem dX_of_1 : decode cX_of 1 = .ok (.iload_n 1, 1) := by decide +kernel
theorem dX_of_2 : decode cX_of 2 = .ok (.invokevirtual 185, 3) := by decide +kernel
theorem dX_of_5 : decode cX_of 5 = .ok (.astore_n 3, 1) := by decide +kernel
theorem dX_of_6 : decode cX_of 6 = .ok (.aload_n 3, 1) := by decide +kernel
theorem dX_of_7 : decode cX_of 7 = .ok (.ifnonnull 13, 3) := by decide +kernel
theorem dX_of_10 : decode cX_of 10 = .ok (.new 146, 3) := by decide +kernel
theorem dX_of_13 : decode cX_of 13 = .ok (.dup, 1) := by decide +kernel
theorem dX_of_14 : decode cX_of 14 = .ok (.ldc 188, 2) := by decide +kernel
theorem dX_of_16 : decode cX_of 16 = .ok (.invokespecial 150, 3) := by decide +kernel
theorem dX_of_19 : decode cX_of 19 = .ok (.athrow, 1) := by decide +kernel
theorem dX_of_20 : decode cX_of 20 = .ok (.iload_n 2, 1) := by decide +kernel
theorem dX_of_21 : decode cX_of 21 = .ok (.tableswitch 80 0 5 #[39, 47, 52, 57, 62, 75], 39) := by decide +kernel
theorem dX_of_60 : decode cX_of 60 = .ok (.aload_n 3, 1) := by decide +kernel
theorem dX_of_61 : decode cX_of 61 = .ok (.getfield 190, 3) := by decide +kernel
theorem dX_of_64 : decode cX_of 64 = .ok (.getfield 194, 3) := by decide +kernel
theorem dX_of_67 : decode cX_of 67 = .ok (.ireturn, 1) := by decide +kernel
theorem dX_of_68 : decode cX_of 68 = .ok (.aload_n 3, 1) := by decide +kernel
theorem dX_of_69 : decode cX_of 69 = .ok (.getfield 184, 3) := by decide +kernel
theorem dX_of_72 : decode cX_of 72 = .ok (.ireturn, 1) := by decide +kernel
theorem dX_of_73 : decode cX_of 73 = .ok (.aload_n 3, 1) := by decide +kernel
theorem dX_of_74 : decode cX_of 74 = .ok (.getfield 197, 3) := by decide +kernel
theorem dX_of_77 : decode cX_of 77 = .ok (.ireturn, 1) := by decide +kernel
theorem dX_of_78 : decode cX_of 78 = .ok (.aload_n 3, 1) := by decide +kernel
theorem dX_of_79 : decode cX_of 79 = .ok (.getfield 104, 3) := by decide +kernel
theorem dX_of_82 : decode cX_of 82 = .ok (.ireturn, 1) := by decide +kernel
theorem dX_of_83 : decode cX_of 83 = .ok (.aload_n 3, 1) := by decide +kernel
theorem dX_of_84 : decode cX_of 84 = .ok (.invokevirtual 200, 3) := by decide +kernel
theorem dX_of_87 : decode cX_of 87 = .ok (.ifCond .eq 7, 3) := by decide +kernel
theorem dX_of_90 : decode cX_of 90 = .ok (.iconst 1, 1) := by decide +kernel
theorem dX_of_91 : decode cX_of 91 = .ok (.goto 4, 3) := by decide +kernel
theorem dX_of_94 : decode cX_of 94 = .ok (.iconst 0, 1) := by decide +kernel
theorem dX_of_95 : decode cX_of 95 = .ok (.ireturn, 1) := by decide +kernel
theorem dX_of_96 : decode cX_of 96 = .ok (.aload_n 3, 1) := by decide +kernel
theorem dX_of_97 : decode cX_of 97 = .ok (.getfield 181, 3) := by decide +kernel
theorem dX_of_100 : decode cX_of 100 = .ok (.ireturn, 1) := by decide +kernel
theorem dX_of_101 : decode cX_of 101 = .ok (.new 146, 3) := by decide +kernel
theorem dX_of_104 : decode cX_of 104 = .ok (.dup, 1) := by decide +kernel
theorem dX_of_105 : decode cX_of 105 = .ok (.ldc 175, 2) := by decide +kernel
theorem dX_of_107 : decode cX_of 107 = .ok (.invokespecial 150, 3) := by decide +kernel
theorem dX_of_110 : decode cX_of 110 = .ok (.athrow, 1) := by decide +kernel
theorem dX_count_0 : decode cX_count 0 = .ok (.iload_n 1, 1) := by decide +kernel
theorem dX_count_1 : decode cX_count 1 = .ok (.tableswitch 60 0 4 #[35, 40, 45, 50, 55], 35) := by decide +kernel
theorem dX_count_36 : decode cX_count 36 = .ok (.aload_n 0, 1) := by decide +kernel
theorem dX_count_37 : decode cX_count 37 = .ok (.getfield 43, 3) := by decide +kernel
theorem dX_count_40 : decode cX_count 40 = .ok (.ireturn, 1) := by decide +kernel
theorem dX_count_41 : decode cX_count 41 = .ok (.aload_n 0, 1) := by decide +kernel
theorem dX_count_42 : decode cX_count 42 = .ok (.getfield 59, 3) := by decide +kernel
theorem dX_count_45 : decode cX_count 45 = .ok (.ireturn, 1) := by decide +kernel
theorem dX_count_46 : decode cX_count 46 = .ok (.aload_n 0, 1) := by decide +kernel
theorem dX_count_47 : decode cX_count 47 = .ok (.getfield 83, 3) := by decide +kernel
theorem dX_count_50 : decode cX_count 50 = .ok (.ireturn, 1) := by decide +kernel
theorem dX_count_51 : decode cX_count 51 = .ok (.aload_n 0, 1) := by decide +kernel
theorem dX_count_52 : decode cX_count 52 = .ok (.getfield 86, 3) := by decide +kernel
theorem dX_count_55 : decode cX_count 55 = .ok (.ireturn, 1) := by decide +kernel
theorem dX_count_56 : decode cX_count 56 = .ok (.aload_n 0, 1) := by decide +kernel
theorem dX_count_57 : decode cX_count 57 = .ok (.getfield 77, 3) := by decide +kernel
theorem dX_count_60 : decode cX_count 60 = .ok (.ireturn, 1) := by decide +kernel
theorem dX_count_61 : decode cX_count 61 = .ok (.aload_n 0, 1) := by decide +kernel
theorem dX_count_62 : decode cX_count 62 = .ok (.iload_n 1, 1) := by decide +kernel
theorem dX_count_63 : decode cX_count 63 = .ok (.invokevirtual 203, 3) := by decide +kernel
theorem dX_count_66 : decode cX_count 66 = .ok (.ireturn, 1) := by decide +kernel
theorem dX_countOfState_0 : decode cX_countOfState 0 = .ok (.iload_n 1, 1) := by decide +kernel
theorem dX_countOfState_1 : decode cX_countOfState 1 = .ok (.bipush 10, 2) := by decide +kernel
theorem dX_countOfState_3 : decode cX_countOfState 3 = .ok (.if_icmp .lt 9, 3) := by decide +kernel
theorem dX_countOfState_6 : decode cX_countOfState 6 = .ok (.iload_n 1, 1) := by decide +kernel
theorem dX_countOfState_7 : decode cX_countOfState 7 = .ok (.bipush 17, 2) := by decide +kernel
theorem dX_countOfState_9 : decode cX_countOfState 9 = .ok (.if_icmp .le 5, 3) := by decide +kernel
theorem dX_countOfState_12 : decode cX_countOfState 12 = .ok (.iconst (-1), 1) := by decide +kernel
theorem dX_countOfState_13 : decode cX_countOfState 13 = .ok (.ireturn, 1) := by decide +kernel
theorem dX_countOfState_14 : decode cX_countOfState 14 = .ok (.iconst 0, 1) := by decide +kernel
theorem dX_countOfState_15 : decode cX_countOfState 15 = .ok (.istore_n 2, 1) := by decide +kernel
theorem dX_countOfState_16 : decode cX_countOfState 16 = .ok (.iconst 0, 1) := by decide +kernel
theorem dX_countOfState_17 : decode cX_countOfState 17 = .ok (.istore_n 3, 1) := by decide +kernel
theorem dX_countOfState_18 : decode cX_countOfState 18 = .ok (.iload_n 3, 1) := by decide +kernel
theorem dX_countOfState_19 : decode cX_countOfState 19 = .ok (.aload_n 0, 1) := by decide +kernel
theorem dX_countOfState_20 : decode cX_countOfState 20 = .ok (.getfield 59, 3) := by decide +kernel
theorem dX_countOfState_23 : decode cX_countOfState 23 = .ok (.if_icmp .ge 36, 3) := by decide +kernel
theorem dX_countOfState_26 : decode cX_countOfState 26 = .ok (.aload_n 0, 1) := by decide +kernel
theorem dX_countOfState_27 : decode cX_countOfState 27 = .ok (.iload_n 3, 1) := by decide +kernel
theorem dX_countOfState_28 : decode cX_countOfState 28 = .ok (.invokevirtual 67, 3) := by decide +kernel
theorem dX_countOfState_31 : decode cX_countOfState 31 = .ok (.astore 4, 2) := by decide +kernel
theorem dX_countOfState_33 : decode cX_countOfState 33 = .ok (.aload 4, 2) := by decide +kernel
theorem dX_countOfState_35 : decode cX_countOfState 35 = .ok (.ifnull 18, 3) := by decide +kernel
theorem dX_countOfState_38 : decode cX_countOfState 38 = .ok (.aload 4, 2) := by decide +kernel
theorem dX_countOfState_40 : decode cX_countOfState 40 = .ok (.getfield 151, 3) := by decide +kernel
theorem dX_countOfState_43 : decode cX_countOfState 43 = .ok (.iload_n 1, 1) := by decide +kernel
theorem dX_countOfState_44 : decode cX_countOfState 44 = .ok (.bipush 10, 2) := by decide +kernel
theorem dX_countOfState_46 : decode cX_countOfState 46 = .ok (.isub, 1) := by decide +kernel
theorem dX_countOfState_47 : decode cX_countOfState 47 = .ok (.if_icmp .ne 6, 3) := by decide +kernel
theorem dX_countOfState_50 : decode cX_countOfState 50 = .ok (.iinc 2 1, 3) := by decide +kernel
theorem dX_countOfState_53 : decode cX_countOfState 53 = .ok (.iinc 3 1, 3) := by decide +kernel
theorem dX_countOfState_56 : decode cX_countOfState 56 = .ok (.goto (-38), 3) := by decide +kernel
theorem dX_countOfState_59 : decode cX_countOfState 59 = .ok (.iload_n 2, 1) := by decide +kernel
theorem dX_countOfState_60 : decode cX_countOfState 60 = .ok (.ireturn, 1) := by decide +kernel
theorem dX_isWithin_0 : decode cX_isWithin 0 = .ok (.iload_n 0, 1) := by decide +kernel
theorem dX_isWithin_1 : decode cX_isWithin 1 = .ok (.ifCond .lt 12, 3) := by decide +kernel
theorem dX_isWithin_4 : decode cX_isWithin 4 = .ok (.iload_n 0, 1) := by decide +kernel
theorem dX_isWithin_5 : decode cX_isWithin 5 = .ok (.iload_n 1, 1) := by decide +kernel
theorem dX_isWithin_6 : decode cX_isWithin 6 = .ok (.if_icmp .gt 7, 3) := by decide +kernel
theorem dX_isWithin_9 : decode cX_isWithin 9 = .ok (.iconst 1, 1) := by decide +kernel
theorem dX_isWithin_10 : decode cX_isWithin 10 = .ok (.goto 4, 3) := by decide +kernel
theorem dX_isWithin_13 : decode cX_isWithin 13 = .ok (.iconst 0, 1) := by decide +kernel
theorem dX_isWithin_14 : decode cX_isWithin 14 = .ok (.ireturn, 1) := by decide +kernel
theorem dX_isPerson_0 : decode cX_isPerson 0 = .ok (.iload_n 1, 1) := by decide +kernel
theorem dX_isPerson_1 : decode cX_isPerson 1 = .ok (.ifCond .lt 24, 3) := by decide +kernel
theorem dX_isPerson_4 : decode cX_isPerson 4 = .ok (.iload_n 1, 1) := by decide +kernel
theorem dX_isPerson_5 : decode cX_isPerson 5 = .ok (.aload_n 0, 1) := by decide +kernel
theorem dX_isPerson_6 : decode cX_isPerson 6 = .ok (.getfield 43, 3) := by decide +kernel
theorem dX_isPerson_9 : decode cX_isPerson 9 = .ok (.if_icmp .ge 16, 3) := by decide +kernel
theorem dX_isPerson_12 : decode cX_isPerson 12 = .ok (.iload_n 1, 1) := by decide +kernel
theorem dX_isPerson_13 : decode cX_isPerson 13 = .ok (.aload_n 0, 1) := by decide +kernel
theorem dX_isPerson_14 : decode cX_isPerson 14 = .ok (.getfield 9, 3) := by decide +kernel
theorem dX_isPerson_17 : decode cX_isPerson 17 = .ok (.arraylength, 1) := by decide +kernel
theorem dX_isPerson_18 : decode cX_isPerson 18 = .ok (.if_icmp .ge 7, 3) := by decide +kernel
theorem dX_isPerson_21 : decode cX_isPerson 21 = .ok (.iconst 1, 1) := by decide +kernel
theorem dX_isPerson_22 : decode cX_isPerson 22 = .ok (.goto 4, 3) := by decide +kernel
theorem dX_isPerson_25 : decode cX_isPerson 25 = .ok (.iconst 0, 1) := by decide +kernel
theorem dX_isPerson_26 : decode cX_isPerson 26 = .ok (.ireturn, 1) := by decide +kernel
theorem dX_roleOf_0 : decode cX_roleOf 0 = .ok (.aload_n 0, 1) := by decide +kernel
theorem dX_roleOf_1 : decode cX_roleOf 1 = .ok (.iload_n 1, 1) := by decide +kernel
theorem dX_roleOf_2 : decode cX_roleOf 2 = .ok (.invokevirtual 71, 3) := by decide +kernel
theorem dX_roleOf_5 : decode cX_roleOf 5 = .ok (.ifCond .eq 12, 3) := by decide +kernel
theorem dX_roleOf_8 : decode cX_roleOf 8 = .ok (.aload_n 0, 1) := by decide +kernel
theorem dX_roleOf_9 : decode cX_roleOf 9 = .ok (.getfield 9, 3) := by decide +kernel
theorem dX_roleOf_12 : decode cX_roleOf 12 = .ok (.iload_n 1, 1) := by decide +kernel
theorem dX_roleOf_13 : decode cX_roleOf 13 = .ok (.iaload, 1) := by decide +kernel
theorem dX_roleOf_14 : decode cX_roleOf 14 = .ok (.goto 4, 3) := by decide +kernel
theorem dX_roleOf_17 : decode cX_roleOf 17 = .ok (.iconst (-1), 1) := by decide +kernel
theorem dX_roleOf_18 : decode cX_roleOf 18 = .ok (.ireturn, 1) := by decide +kernel
theorem dX_declarationAt_0 : decode cX_declarationAt 0 = .ok (.iload_n 1, 1) := by decide +kernel
theorem dX_declarationAt_1 : decode cX_declarationAt 1 = .ok (.ifCond .lt 24, 3) := by decide +kernel
theorem dX_declarationAt_4 : decode cX_declarationAt 4 = .ok (.iload_n 1, 1) := by decide +kernel
theorem dX_declarationAt_5 : decode cX_declarationAt 5 = .ok (.aload_n 0, 1) := by decide +kernel
theorem dX_declarationAt_6 : decode cX_declarationAt 6 = .ok (.getfield 59, 3) := by decide +kernel
theorem dX_declarationAt_9 : decode cX_declarationAt 9 = .ok (.if_icmp .ge 16, 3) := by decide +kernel
theorem dX_declarationAt_12 : decode cX_declarationAt 12 = .ok (.iload_n 1, 1) := by decide +kernel
theorem dX_declarationAt_13 : decode cX_declarationAt 13 = .ok (.aload_n 0, 1) := by decide +kernel
theorem dX_declarationAt_14 : decode cX_declarationAt 14 = .ok (.getfield 15, 3) := by decide +kernel
theorem dX_declarationAt_17 : decode cX_declarationAt 17 = .ok (.arraylength, 1) := by decide +kernel
theorem dX_declarationAt_18 : decode cX_declarationAt 18 = .ok (.if_icmp .ge 7, 3) := by decide +kernel
theorem dX_declarationAt_21 : decode cX_declarationAt 21 = .ok (.iconst 1, 1) := by decide +kernel
theorem dX_declarationAt_22 : decode cX_declarationAt 22 = .ok (.goto 4, 3) := by decide +kernel
theorem dX_declarationAt_25 : decode cX_declarationAt 25 = .ok (.iconst 0, 1) := by decide +kernel
theorem dX_declarationAt_26 : decode cX_declarationAt 26 = .ok (.istore_n 2, 1) := by decide +kernel
theorem dX_declarationAt_27 : decode cX_declarationAt 27 = .ok (.iload_n 2, 1) := by decide +kernel
theorem dX_declarationAt_28 : decode cX_declarationAt 28 = .ok (.ifCond .eq 12, 3) := by decide +kernel
theorem dX_declarationAt_31 : decode cX_declarationAt 31 = .ok (.aload_n 0, 1) := by decide +kernel
theorem dX_declarationAt_32 : decode cX_declarationAt 32 = .ok (.getfield 15, 3) := by decide +kernel
theorem dX_declarationAt_35 : decode cX_declarationAt 35 = .ok (.iload_n 1, 1) := by decide +kernel
theorem dX_declarationAt_36 : decode cX_declarationAt 36 = .ok (.aaload, 1) := by decide +kernel
theorem dX_declarationAt_37 : decode cX_declarationAt 37 = .ok (.goto 4, 3) := by decide +kernel
theorem dX_declarationAt_40 : decode cX_declarationAt 40 = .ok (.aconst_null, 1) := by decide +kernel
theorem dX_declarationAt_41 : decode cX_declarationAt 41 = .ok (.areturn, 1) := by decide +kernel
theorem dX_eventAt_0 : decode cX_eventAt 0 = .ok (.iload_n 1, 1) := by decide +kernel
theorem dX_eventAt_1 : decode cX_eventAt 1 = .ok (.ifCond .lt 24, 3) := by decide +kernel
theorem dX_eventAt_4 : decode cX_eventAt 4 = .ok (.iload_n 1, 1) := by decide +kernel
theorem dX_eventAt_5 : decode cX_eventAt 5 = .ok (.aload_n 0, 1) := by decide +kernel
theorem dX_eventAt_6 : decode cX_eventAt 6 = .ok (.getfield 83, 3) := by decide +kernel
theorem dX_eventAt_9 : decode cX_eventAt 9 = .ok (.if_icmp .ge 16, 3) := by decide +kernel
theorem dX_eventAt_12 : decode cX_eventAt 12 = .ok (.iload_n 1, 1) := by decide +kernel
theorem dX_eventAt_13 : decode cX_eventAt 13 = .ok (.aload_n 0, 1) := by decide +kernel
theorem dX_eventAt_14 : decode cX_eventAt 14 = .ok (.getfield 21, 3) := by decide +kernel
theorem dX_eventAt_17 : decode cX_eventAt 17 = .ok (.arraylength, 1) := by decide +kernel
theorem dX_eventAt_18 : decode cX_eventAt 18 = .ok (.if_icmp .ge 7, 3) := by decide +kernel
theorem dX_eventAt_21 : decode cX_eventAt 21 = .ok (.iconst 1, 1) := by decide +kernel
theorem dX_eventAt_22 : decode cX_eventAt 22 = .ok (.goto 4, 3) := by decide +kernel
theorem dX_eventAt_25 : decode cX_eventAt 25 = .ok (.iconst 0, 1) := by decide +kernel
theorem dX_eventAt_26 : decode cX_eventAt 26 = .ok (.istore_n 2, 1) := by decide +kernel
theorem dX_eventAt_27 : decode cX_eventAt 27 = .ok (.iload_n 2, 1) := by decide +kernel
theorem dX_eventAt_28 : decode cX_eventAt 28 = .ok (.ifCond .eq 12, 3) := by decide +kernel
theorem dX_eventAt_31 : decode cX_eventAt 31 = .ok (.aload_n 0, 1) := by decide +kernel
theorem dX_eventAt_32 : decode cX_eventAt 32 = .ok (.getfield 21, 3) := by decide +kernel
theorem dX_eventAt_35 : decode cX_eventAt 35 = .ok (.iload_n 1, 1) := by decide +kernel
theorem dX_eventAt_36 : decode cX_eventAt 36 = .ok (.aaload, 1) := by decide +kernel
theorem dX_eventAt_37 : decode cX_eventAt 37 = .ok (.goto 4, 3) := by decide +kernel
theorem dX_eventAt_40 : decode cX_eventAt 40 = .ok (.aconst_null, 1) := by decide +kernel
theorem dX_eventAt_41 : decode cX_eventAt 41 = .ok (.areturn, 1) := by decide +kernel
theorem dX_isFailing_0 : decode cX_isFailing 0 = .ok (.aload_n 0, 1) := by decide +kernel
theorem dX_isFailing_1 : decode cX_isFailing 1 = .ok (.getfield 116, 3) := by decide +kernel
theorem dX_isFailing_4 : decode cX_isFailing 4 = .ok (.iconst 1, 1) := by decide +kernel
theorem dX_isFailing_5 : decode cX_isFailing 5 = .ok (.iload_n 1, 1) := by decide +kernel
theorem dX_isFailing_6 : decode cX_isFailing 6 = .ok (.ishl, 1) := by decide +kernel
theorem dX_isFailing_7 : decode cX_isFailing 7 = .ok (.iand, 1) := by decide +kernel
theorem dX_isFailing_8 : decode cX_isFailing 8 = .ok (.ifCond .eq 7, 3) := by decide +kernel
theorem dX_isFailing_11 : decode cX_isFailing 11 = .ok (.iconst 1, 1) := by decide +kernel
theorem dX_isFailing_12 : decode cX_isFailing 12 = .ok (.goto 4, 3) := by decide +kernel
theorem dX_isFailing_15 : decode cX_isFailing 15 = .ok (.iconst 0, 1) := by decide +kernel
theorem dX_isFailing_16 : decode cX_isFailing 16 = .ok (.ireturn, 1) := by decide +kernel
theorem dX_putInWaitingOrder_0 : decode cX_putInWaitingOrder 0 = .ok (.aconst_null, 1) := by decide +kernel
theorem dX_putInWaitingOrder_1 : decode cX_putInWaitingOrder 1 = .ok (.astore_n 2, 1) := by decide +kernel
theorem dX_putInWaitingOrder_2 : decode cX_putInWaitingOrder 2 = .ok (.aload_n 0, 1) := by decide +kernel
theorem dX_putInWaitingOrder_3 : decode cX_putInWaitingOrder 3 = .ok (.getfield 100, 3) := by decide +kernel
theorem dX_putInWaitingOrder_6 : decode cX_putInWaitingOrder 6 = .ok (.astore_n 3, 1) := by decide +kernel
theorem dX_putInWaitingOrder_7 : decode cX_putInWaitingOrder 7 = .ok (.aload_n 3, 1) := by decide +kernel
theorem dX_putInWaitingOrder_8 : decode cX_putInWaitingOrder 8 = .ok (.ifnull 21, 3) := by decide +kernel
theorem dX_putInWaitingOrder_11 : decode cX_putInWaitingOrder 11 = .ok (.aload_n 1, 1) := by decide +kernel
theorem dX_putInWaitingOrder_12 : decode cX_putInWaitingOrder 12 = .ok (.aload_n 3, 1) := by decide +kernel
theorem dX_putInWaitingOrder_13 : decode cX_putInWaitingOrder 13 = .ok (.invokevirtual 206, 3) := by decide +kernel
theorem dX_putInWaitingOrder_16 : decode cX_putInWaitingOrder 16 = .ok (.ifCond .ne 13, 3) := by decide +kernel
theorem dX_putInWaitingOrder_19 : decode cX_putInWaitingOrder 19 = .ok (.aload_n 3, 1) := by decide +kernel
theorem dX_putInWaitingOrder_20 : decode cX_putInWaitingOrder 20 = .ok (.astore_n 2, 1) := by decide +kernel
theorem dX_putInWaitingOrder_21 : decode cX_putInWaitingOrder 21 = .ok (.aload_n 3, 1) := by decide +kernel
theorem dX_putInWaitingOrder_22 : decode cX_putInWaitingOrder 22 = .ok (.getfield 107, 3) := by decide +kernel
theorem dX_putInWaitingOrder_25 : decode cX_putInWaitingOrder 25 = .ok (.astore_n 3, 1) := by decide +kernel
theorem dX_putInWaitingOrder_26 : decode cX_putInWaitingOrder 26 = .ok (.goto (-19), 3) := by decide +kernel
theorem dX_putInWaitingOrder_29 : decode cX_putInWaitingOrder 29 = .ok (.aload_n 1, 1) := by decide +kernel
theorem dX_putInWaitingOrder_30 : decode cX_putInWaitingOrder 30 = .ok (.aload_n 3, 1) := by decide +kernel
theorem dX_putInWaitingOrder_31 : decode cX_putInWaitingOrder 31 = .ok (.putfield 107, 3) := by decide +kernel
theorem dX_putInWaitingOrder_34 : decode cX_putInWaitingOrder 34 = .ok (.aload_n 2, 1) := by decide +kernel
theorem dX_putInWaitingOrder_35 : decode cX_putInWaitingOrder 35 = .ok (.ifnonnull 11, 3) := by decide +kernel
theorem dX_putInWaitingOrder_38 : decode cX_putInWaitingOrder 38 = .ok (.aload_n 0, 1) := by decide +kernel
theorem dX_putInWaitingOrder_39 : decode cX_putInWaitingOrder 39 = .ok (.aload_n 1, 1) := by decide +kernel
theorem dX_putInWaitingOrder_40 : decode cX_putInWaitingOrder 40 = .ok (.putfield 100, 3) := by decide +kernel
theorem dX_putInWaitingOrder_43 : decode cX_putInWaitingOrder 43 = .ok (.goto 8, 3) := by decide +kernel
theorem dX_putInWaitingOrder_46 : decode cX_putInWaitingOrder 46 = .ok (.aload_n 2, 1) := by decide +kernel
theorem dX_putInWaitingOrder_47 : decode cX_putInWaitingOrder 47 = .ok (.aload_n 1, 1) := by decide +kernel
theorem dX_putInWaitingOrder_48 : decode cX_putInWaitingOrder 48 = .ok (.putfield 107, 3) := by decide +kernel
theorem dX_putInWaitingOrder_51 : decode cX_putInWaitingOrder 51 = .ok (.aload_n 0, 1) := by decide +kernel
theorem dX_putInWaitingOrder_52 : decode cX_putInWaitingOrder 52 = .ok (.dup, 1) := by decide +kernel
theorem dX_putInWaitingOrder_53 : decode cX_putInWaitingOrder 53 = .ok (.getfield 86, 3) := by decide +kernel
theorem dX_putInWaitingOrder_56 : decode cX_putInWaitingOrder 56 = .ok (.iconst 1, 1) := by decide +kernel
theorem dX_putInWaitingOrder_57 : decode cX_putInWaitingOrder 57 = .ok (.iadd, 1) := by decide +kernel
theorem dX_putInWaitingOrder_58 : decode cX_putInWaitingOrder 58 = .ok (.putfield 86, 3) := by decide +kernel
theorem dX_putInWaitingOrder_61 : decode cX_putInWaitingOrder 61 = .ok (.return_, 1) := by decide +kernel
theorem dX_settle_0 : decode cX_settle 0 = .ok (.aload_n 1, 1) := by decide +kernel
theorem dX_settle_1 : decode cX_settle 1 = .ok (.getfield 190, 3) := by decide +kernel
theorem dX_settle_4 : decode cX_settle 4 = .ok (.astore_n 2, 1) := by decide +kernel
theorem dX_settle_5 : decode cX_settle 5 = .ok (.aload_n 0, 1) := by decide +kernel
theorem dX_settle_6 : decode cX_settle 6 = .ok (.aload_n 1, 1) := by decide +kernel
theorem dX_settle_7 : decode cX_settle 7 = .ok (.invokevirtual 210, 3) := by decide +kernel
theorem dX_settle_10 : decode cX_settle 10 = .ok (.istore_n 3, 1) := by decide +kernel
theorem dX_settle_11 : decode cX_settle 11 = .ok (.iload_n 3, 1) := by decide +kernel
theorem dX_settle_12 : decode cX_settle 12 = .ok (.ifCond .ne 26, 3) := by decide +kernel
theorem dX_settle_15 : decode cX_settle 15 = .ok (.aload_n 2, 1) := by decide +kernel
theorem dX_settle_16 : decode cX_settle 16 = .ok (.aload_n 1, 1) := by decide +kernel
theorem dX_settle_17 : decode cX_settle 17 = .ok (.getfield 184, 3) := by decide +kernel
theorem dX_settle_20 : decode cX_settle 20 = .ok (.aload_n 1, 1) := by decide +kernel
theorem dX_settle_21 : decode cX_settle 21 = .ok (.getfield 104, 3) := by decide +kernel
theorem dX_settle_24 : decode cX_settle 24 = .ok (.invokevirtual 214, 3) := by decide +kernel
theorem dX_settle_27 : decode cX_settle 27 = .ok (.aload_n 1, 1) := by decide +kernel
theorem dX_settle_28 : decode cX_settle 28 = .ok (.aload_n 2, 1) := by decide +kernel
theorem dX_settle_29 : decode cX_settle 29 = .ok (.getfield 151, 3) := by decide +kernel
theorem dX_settle_32 : decode cX_settle 32 = .ok (.putfield 181, 3) := by decide +kernel
theorem dX_settle_35 : decode cX_settle 35 = .ok (.goto 10, 3) := by decide +kernel
theorem dX_settle_38 : decode cX_settle 38 = .ok (.aload_n 1, 1) := by decide +kernel
theorem dX_settle_39 : decode cX_settle 39 = .ok (.iconst (-1), 1) := by decide +kernel
theorem dX_settle_40 : decode cX_settle 40 = .ok (.iload_n 3, 1) := by decide +kernel
theorem dX_settle_41 : decode cX_settle 41 = .ok (.isub, 1) := by decide +kernel
theorem dX_settle_42 : decode cX_settle 42 = .ok (.putfield 181, 3) := by decide +kernel
theorem dX_settle_45 : decode cX_settle 45 = .ok (.iload_n 3, 1) := by decide +kernel
theorem dX_settle_46 : decode cX_settle 46 = .ok (.iconst 1, 1) := by decide +kernel
theorem dX_settle_47 : decode cX_settle 47 = .ok (.if_icmp .ne 20, 3) := by decide +kernel
theorem dX_settle_50 : decode cX_settle 50 = .ok (.aload_n 0, 1) := by decide +kernel
theorem dX_settle_51 : decode cX_settle 51 = .ok (.dup, 1) := by decide +kernel
theorem dX_settle_52 : decode cX_settle 52 = .ok (.getfield 116, 3) := by decide +kernel
theorem dX_settle_55 : decode cX_settle 55 = .ok (.iconst 1, 1) := by decide +kernel
theorem dX_settle_56 : decode cX_settle 56 = .ok (.aload_n 1, 1) := by decide +kernel
theorem dX_settle_57 : decode cX_settle 57 = .ok (.getfield 184, 3) := by decide +kernel
theorem dX_settle_60 : decode cX_settle 60 = .ok (.ishl, 1) := by decide +kernel
theorem dX_settle_61 : decode cX_settle 61 = .ok (.iconst (-1), 1) := by decide +kernel
theorem dX_settle_62 : decode cX_settle 62 = .ok (.ixor, 1) := by decide +kernel
theorem dX_settle_63 : decode cX_settle 63 = .ok (.iand, 1) := by decide +kernel
theorem dX_settle_64 : decode cX_settle 64 = .ok (.putfield 116, 3) := by decide +kernel
theorem dX_settle_67 : decode cX_settle 67 = .ok (.aload_n 2, 1) := by decide +kernel
theorem dX_settle_68 : decode cX_settle 68 = .ok (.aload_n 1, 1) := by decide +kernel
theorem dX_settle_69 : decode cX_settle 69 = .ok (.invokevirtual 218, 3) := by decide +kernel
theorem dX_settle_72 : decode cX_settle 72 = .ok (.return_, 1) := by decide +kernel
theorem dX_refusalOf_0 : decode cX_refusalOf 0 = .ok (.aload_n 0, 1) := by decide +kernel
theorem dX_refusalOf_1 : decode cX_refusalOf 1 = .ok (.aload_n 1, 1) := by decide +kernel
theorem dX_refusalOf_2 : decode cX_refusalOf 2 = .ok (.getfield 184, 3) := by decide +kernel
theorem dX_refusalOf_5 : decode cX_refusalOf 5 = .ok (.invokevirtual 113, 3) := by decide +kernel
theorem dX_refusalOf_8 : decode cX_refusalOf 8 = .ok (.ifCond .eq 5, 3) := by decide +kernel
theorem dX_refusalOf_11 : decode cX_refusalOf 11 = .ok (.iconst 1, 1) := by decide +kernel
theorem dX_refusalOf_12 : decode cX_refusalOf 12 = .ok (.ireturn, 1) := by decide +kernel
theorem dX_refusalOf_13 : decode cX_refusalOf 13 = .ok (.aload_n 0, 1) := by decide +kernel
theorem dX_refusalOf_14 : decode cX_refusalOf 14 = .ok (.aload_n 1, 1) := by decide +kernel
theorem dX_refusalOf_15 : decode cX_refusalOf 15 = .ok (.invokevirtual 221, 3) := by decide +kernel
theorem dX_refusalOf_18 : decode cX_refusalOf 18 = .ok (.ifCond .ne 5, 3) := by decide +kernel
theorem dX_refusalOf_21 : decode cX_refusalOf 21 = .ok (.iconst 2, 1) := by decide +kernel
theorem dX_refusalOf_22 : decode cX_refusalOf 22 = .ok (.ireturn, 1) := by decide +kernel
theorem dX_refusalOf_23 : decode cX_refusalOf 23 = .ok (.aload_n 1, 1) := by decide +kernel
theorem dX_refusalOf_24 : decode cX_refusalOf 24 = .ok (.getfield 184, 3) := by decide +kernel
theorem dX_refusalOf_27 : decode cX_refusalOf 27 = .ok (.invokestatic 224, 3) := by decide +kernel
theorem dX_refusalOf_30 : decode cX_refusalOf 30 = .ok (.ifCond .eq 16, 3) := by decide +kernel
theorem dX_refusalOf_33 : decode cX_refusalOf 33 = .ok (.aload_n 0, 1) := by decide +kernel
theorem dX_refusalOf_34 : decode cX_refusalOf 34 = .ok (.aload_n 1, 1) := by decide +kernel
theorem dX_refusalOf_35 : decode cX_refusalOf 35 = .ok (.getfield 104, 3) := by decide +kernel
theorem dX_refusalOf_38 : decode cX_refusalOf 38 = .ok (.invokevirtual 227, 3) := by decide +kernel
theorem dX_refusalOf_41 : decode cX_refusalOf 41 = .ok (.ifCond .ne 5, 3) := by decide +kernel
theorem dX_refusalOf_44 : decode cX_refusalOf 44 = .ok (.iconst 3, 1) := by decide +kernel
theorem dX_refusalOf_45 : decode cX_refusalOf 45 = .ok (.ireturn, 1) := by decide +kernel
theorem dX_refusalOf_46 : decode cX_refusalOf 46 = .ok (.aload_n 1, 1) := by decide +kernel
theorem dX_refusalOf_47 : decode cX_refusalOf 47 = .ok (.getfield 190, 3) := by decide +kernel
theorem dX_refusalOf_50 : decode cX_refusalOf 50 = .ok (.aload_n 1, 1) := by decide +kernel
theorem dX_refusalOf_51 : decode cX_refusalOf 51 = .ok (.getfield 184, 3) := by decide +kernel
theorem dX_refusalOf_54 : decode cX_refusalOf 54 = .ok (.invokevirtual 230, 3) := by decide +kernel
theorem dX_refusalOf_57 : decode cX_refusalOf 57 = .ok (.ifCond .ne 5, 3) := by decide +kernel
theorem dX_refusalOf_60 : decode cX_refusalOf 60 = .ok (.iconst 4, 1) := by decide +kernel
theorem dX_refusalOf_61 : decode cX_refusalOf 61 = .ok (.ireturn, 1) := by decide +kernel
theorem dX_refusalOf_62 : decode cX_refusalOf 62 = .ok (.aload_n 1, 1) := by decide +kernel
theorem dX_refusalOf_63 : decode cX_refusalOf 63 = .ok (.getfield 190, 3) := by decide +kernel
theorem dX_refusalOf_66 : decode cX_refusalOf 66 = .ok (.aload_n 1, 1) := by decide +kernel
theorem dX_refusalOf_67 : decode cX_refusalOf 67 = .ok (.getfield 184, 3) := by decide +kernel
theorem dX_refusalOf_70 : decode cX_refusalOf 70 = .ok (.invokevirtual 233, 3) := by decide +kernel
theorem dX_refusalOf_73 : decode cX_refusalOf 73 = .ok (.ifCond .ne 5, 3) := by decide +kernel
theorem dX_refusalOf_76 : decode cX_refusalOf 76 = .ok (.iconst 5, 1) := by decide +kernel
theorem dX_refusalOf_77 : decode cX_refusalOf 77 = .ok (.ireturn, 1) := by decide +kernel
theorem dX_refusalOf_78 : decode cX_refusalOf 78 = .ok (.iconst 0, 1) := by decide +kernel
theorem dX_refusalOf_79 : decode cX_refusalOf 79 = .ok (.ireturn, 1) := by decide +kernel
theorem dX_mayTell_0 : decode cX_mayTell 0 = .ok (.aload_n 0, 1) := by decide +kernel
theorem dX_mayTell_1 : decode cX_mayTell 1 = .ok (.aload_n 1, 1) := by decide +kernel
theorem dX_mayTell_2 : decode cX_mayTell 2 = .ok (.getfield 197, 3) := by decide +kernel
theorem dX_mayTell_5 : decode cX_mayTell 5 = .ok (.invokevirtual 53, 3) := by decide +kernel
theorem dX_mayTell_8 : decode cX_mayTell 8 = .ok (.istore_n 2, 1) := by decide +kernel
theorem dX_mayTell_9 : decode cX_mayTell 9 = .ok (.aload_n 1, 1) := by decide +kernel
theorem dX_mayTell_10 : decode cX_mayTell 10 = .ok (.getfield 184, 3) := by decide +kernel
theorem dX_mayTell_13 : decode cX_mayTell 13 = .ok (.tableswitch 101 0 9 #[55, 75, 101, 101, 101, 101, 55, 90, 101, 55], 55) := by decide +kernel
theorem dX_mayTell_68 : decode cX_mayTell 68 = .ok (.aload_n 1, 1) := by decide +kernel
theorem dX_mayTell_69 : decode cX_mayTell 69 = .ok (.getfield 197, 3) := by decide +kernel
theorem dX_mayTell_72 : decode cX_mayTell 72 = .ok (.aload_n 1, 1) := by decide +kernel
theorem dX_mayTell_73 : decode cX_mayTell 73 = .ok (.getfield 190, 3) := by decide +kernel
theorem dX_mayTell_76 : decode cX_mayTell 76 = .ok (.getfield 157, 3) := by decide +kernel
theorem dX_mayTell_79 : decode cX_mayTell 79 = .ok (.if_icmp .ne 7, 3) := by decide +kernel
theorem dX_mayTell_82 : decode cX_mayTell 82 = .ok (.iconst 1, 1) := by decide +kernel
theorem dX_mayTell_83 : decode cX_mayTell 83 = .ok (.goto 4, 3) := by decide +kernel
theorem dX_mayTell_86 : decode cX_mayTell 86 = .ok (.iconst 0, 1) := by decide +kernel
theorem dX_mayTell_87 : decode cX_mayTell 87 = .ok (.ireturn, 1) := by decide +kernel
theorem dX_mayTell_88 : decode cX_mayTell 88 = .ok (.iload_n 2, 1) := by decide +kernel
theorem dX_mayTell_89 : decode cX_mayTell 89 = .ok (.ifCond .eq 8, 3) := by decide +kernel
theorem dX_mayTell_92 : decode cX_mayTell 92 = .ok (.iload_n 2, 1) := by decide +kernel
theorem dX_mayTell_93 : decode cX_mayTell 93 = .ok (.iconst 2, 1) := by decide +kernel
theorem dX_mayTell_94 : decode cX_mayTell 94 = .ok (.if_icmp .ne 7, 3) := by decide +kernel
theorem dX_mayTell_97 : decode cX_mayTell 97 = .ok (.iconst 1, 1) := by decide +kernel
theorem dX_mayTell_98 : decode cX_mayTell 98 = .ok (.goto 4, 3) := by decide +kernel
theorem dX_mayTell_101 : decode cX_mayTell 101 = .ok (.iconst 0, 1) := by decide +kernel
theorem dX_mayTell_102 : decode cX_mayTell 102 = .ok (.ireturn, 1) := by decide +kernel
theorem dX_mayTell_103 : decode cX_mayTell 103 = .ok (.iload_n 2, 1) := by decide +kernel
theorem dX_mayTell_104 : decode cX_mayTell 104 = .ok (.iconst 2, 1) := by decide +kernel
theorem dX_mayTell_105 : decode cX_mayTell 105 = .ok (.if_icmp .ne 7, 3) := by decide +kernel
theorem dX_mayTell_108 : decode cX_mayTell 108 = .ok (.iconst 1, 1) := by decide +kernel
theorem dX_mayTell_109 : decode cX_mayTell 109 = .ok (.goto 4, 3) := by decide +kernel
theorem dX_mayTell_112 : decode cX_mayTell 112 = .ok (.iconst 0, 1) := by decide +kernel
theorem dX_mayTell_113 : decode cX_mayTell 113 = .ok (.ireturn, 1) := by decide +kernel
theorem dX_mayTell_114 : decode cX_mayTell 114 = .ok (.iload_n 2, 1) := by decide +kernel
theorem dX_mayTell_115 : decode cX_mayTell 115 = .ok (.iconst 1, 1) := by decide +kernel
theorem dX_mayTell_116 : decode cX_mayTell 116 = .ok (.if_icmp .ne 7, 3) := by decide +kernel
theorem dX_mayTell_119 : decode cX_mayTell 119 = .ok (.iconst 1, 1) := by decide +kernel
theorem dX_mayTell_120 : decode cX_mayTell 120 = .ok (.goto 4, 3) := by decide +kernel
theorem dX_mayTell_123 : decode cX_mayTell 123 = .ok (.iconst 0, 1) := by decide +kernel
theorem dX_mayTell_124 : decode cX_mayTell 124 = .ok (.ireturn, 1) := by decide +kernel
theorem dX_isOfficersAct_0 : decode cX_isOfficersAct 0 = .ok (.iload_n 0, 1) := by decide +kernel
theorem dX_isOfficersAct_1 : decode cX_isOfficersAct 1 = .ok (.iconst 2, 1) := by decide +kernel
theorem dX_isOfficersAct_2 : decode cX_isOfficersAct 2 = .ok (.if_icmp .lt 8, 3) := by decide +kernel
theorem dX_isOfficersAct_5 : decode cX_isOfficersAct 5 = .ok (.iload_n 0, 1) := by decide +kernel
theorem dX_isOfficersAct_6 : decode cX_isOfficersAct 6 = .ok (.iconst 5, 1) := by decide +kernel
theorem dX_isOfficersAct_7 : decode cX_isOfficersAct 7 = .ok (.if_icmp .le 9, 3) := by decide +kernel
theorem dX_isOfficersAct_10 : decode cX_isOfficersAct 10 = .ok (.iload_n 0, 1) := by decide +kernel
theorem dX_isOfficersAct_11 : decode cX_isOfficersAct 11 = .ok (.bipush 8, 2) := by decide +kernel
theorem dX_isOfficersAct_13 : decode cX_isOfficersAct 13 = .ok (.if_icmp .ne 7, 3) := by decide +kernel
theorem dX_isOfficersAct_16 : decode cX_isOfficersAct 16 = .ok (.iconst 1, 1) := by decide +kernel
theorem dX_isOfficersAct_17 : decode cX_isOfficersAct 17 = .ok (.goto 4, 3) := by decide +kernel
theorem dX_isOfficersAct_20 : decode cX_isOfficersAct 20 = .ok (.iconst 0, 1) := by decide +kernel
theorem dX_isOfficersAct_21 : decode cX_isOfficersAct 21 = .ok (.ireturn, 1) := by decide +kernel
theorem dX_isOpenAt_0 : decode cX_isOpenAt 0 = .ok (.iload_n 1, 1) := by decide +kernel
theorem dX_isOpenAt_1 : decode cX_isOpenAt 1 = .ok (.bipush 24, 2) := by decide +kernel
theorem dX_isOpenAt_3 : decode cX_isOpenAt 3 = .ok (.irem, 1) := by decide +kernel
theorem dX_isOpenAt_4 : decode cX_isOpenAt 4 = .ok (.istore_n 2, 1) := by decide +kernel
theorem dX_isOpenAt_5 : decode cX_isOpenAt 5 = .ok (.iload_n 2, 1) := by decide +kernel
theorem dX_isOpenAt_6 : decode cX_isOpenAt 6 = .ok (.aload_n 0, 1) := by decide +kernel
theorem dX_isOpenAt_7 : decode cX_isOpenAt 7 = .ok (.getfield 25, 3) := by decide +kernel
theorem dX_isOpenAt_10 : decode cX_isOpenAt 10 = .ok (.if_icmp .lt 15, 3) := by decide +kernel
theorem dX_isOpenAt_13 : decode cX_isOpenAt 13 = .ok (.iload_n 2, 1) := by decide +kernel
theorem dX_isOpenAt_14 : decode cX_isOpenAt 14 = .ok (.aload_n 0, 1) := by decide +kernel
theorem dX_isOpenAt_15 : decode cX_isOpenAt 15 = .ok (.getfield 29, 3) := by decide +kernel
theorem dX_isOpenAt_18 : decode cX_isOpenAt 18 = .ok (.if_icmp .ge 7, 3) := by decide +kernel
theorem dX_isOpenAt_21 : decode cX_isOpenAt 21 = .ok (.iconst 1, 1) := by decide +kernel
theorem dX_isOpenAt_22 : decode cX_isOpenAt 22 = .ok (.goto 4, 3) := by decide +kernel
theorem dX_isOpenAt_25 : decode cX_isOpenAt 25 = .ok (.iconst 0, 1) := by decide +kernel
theorem dX_isOpenAt_26 : decode cX_isOpenAt 26 = .ok (.ireturn, 1) := by decide +kernel
