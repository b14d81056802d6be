theorem dX7_element_168 : decode cX7_element 168 = .ok (.iaload, 1) := by decide +kernel
theorem dX7_element_169 : decode cX7_element 169 = .ok (.aload_n 0, 1) := by decide +kernel
theorem dX7_element_170 : decode cX7_element 170 = .ok (.getfield 41, 3) := by decide +kernel
theorem dX7_element_173 : decode cX7_element 173 = .ok (.getfield 186, 3) := by decide +kernel
theorem dX7_element_176 : decode cX7_element 176 = .ok (.iload_n 2, 1) := by decide +kernel
theorem dX7_element_177 : decode cX7_element 177 = .ok (.iaload, 1) := by decide +kernel
theorem dX7_element_178 : decode cX7_element 178 = .ok (.iadd, 1) := by decide +kernel
theorem dX7_element_179 : decode cX7_element 179 = .ok (.ireturn, 1) := by decide +kernel
theorem dX7_element_180 : decode cX7_element 180 = .ok (.aload 4, 2) := by decide +kernel
theorem dX7_element_182 : decode cX7_element 182 = .ok (.getfield 189, 3) := by decide +kernel
theorem dX7_element_185 : decode cX7_element 185 = .ok (.iload_n 2, 1) := by decide +kernel
theorem dX7_element_186 : decode cX7_element 186 = .ok (.iaload, 1) := by decide +kernel
theorem dX7_element_187 : decode cX7_element 187 = .ok (.ireturn, 1) := by decide +kernel
theorem dX7_element_188 : decode cX7_element 188 = .ok (.aload 4, 2) := by decide +kernel
theorem dX7_element_190 : decode cX7_element 190 = .ok (.getfield 192, 3) := by decide +kernel
theorem dX7_element_193 : decode cX7_element 193 = .ok (.iload_n 2, 1) := by decide +kernel
theorem dX7_element_194 : decode cX7_element 194 = .ok (.iaload, 1) := by decide +kernel
theorem dX7_element_195 : decode cX7_element 195 = .ok (.ireturn, 1) := by decide +kernel
theorem dX7_element_196 : decode cX7_element 196 = .ok (.aload_n 0, 1) := by decide +kernel
theorem dX7_element_197 : decode cX7_element 197 = .ok (.getfield 41, 3) := by decide +kernel
theorem dX7_element_200 : decode cX7_element 200 = .ok (.getfield 195, 3) := by decide +kernel
theorem dX7_element_203 : decode cX7_element 203 = .ok (.iload_n 2, 1) := by decide +kernel
theorem dX7_element_204 : decode cX7_element 204 = .ok (.iaload, 1) := by decide +kernel
theorem dX7_element_205 : decode cX7_element 205 = .ok (.ireturn, 1) := by decide +kernel
theorem dX7_part_0 : decode cX7_part 0 = .ok (.aload_n 0, 1) := by decide +kernel
theorem dX7_part_1 : decode cX7_part 1 = .ok (.getfield 10, 3) := by decide +kernel
theorem dX7_part_4 : decode cX7_part 4 = .ok (.iload_n 1, 1) := by decide +kernel
theorem dX7_part_5 : decode cX7_part 5 = .ok (.iload_n 2, 1) := by decide +kernel
theorem dX7_part_6 : decode cX7_part 6 = .ok (.iload_n 3, 1) := by decide +kernel
theorem dX7_part_7 : decode cX7_part 7 = .ok (.invokevirtual 198, 3) := by decide +kernel
theorem dX7_part_10 : decode cX7_part 10 = .ok (.ifCond .ne 13, 3) := by decide +kernel
theorem dX7_part_13 : decode cX7_part 13 = .ok (.new 126, 3) := by decide +kernel
theorem dX7_part_16 : decode cX7_part 16 = .ok (.dup, 1) := by decide +kernel
theorem dX7_part_17 : decode cX7_part 17 = .ok (.ldc 202, 2) := by decide +kernel
theorem dX7_part_19 : decode cX7_part 19 = .ok (.invokespecial 130, 3) := by decide +kernel
theorem dX7_part_22 : decode cX7_part 22 = .ok (.athrow, 1) := by decide +kernel
theorem dX7_part_23 : decode cX7_part 23 = .ok (.iload 4, 2) := by decide +kernel
theorem dX7_part_25 : decode cX7_part 25 = .ok (.ifCond .lt 9, 3) := by decide +kernel
theorem dX7_part_28 : decode cX7_part 28 = .ok (.iload 4, 2) := by decide +kernel
theorem dX7_part_30 : decode cX7_part 30 = .ok (.iconst 4, 1) := by decide +kernel
theorem dX7_part_31 : decode cX7_part 31 = .ok (.if_icmp .le 13, 3) := by decide +kernel
theorem dX7_part_34 : decode cX7_part 34 = .ok (.new 69, 3) := by decide +kernel
theorem dX7_part_37 : decode cX7_part 37 = .ok (.dup, 1) := by decide +kernel
theorem dX7_part_38 : decode cX7_part 38 = .ok (.ldc 204, 2) := by decide +kernel
theorem dX7_part_40 : decode cX7_part 40 = .ok (.invokespecial 73, 3) := by decide +kernel
theorem dX7_part_43 : decode cX7_part 43 = .ok (.athrow, 1) := by decide +kernel
theorem dX7_part_44 : decode cX7_part 44 = .ok (.aload_n 0, 1) := by decide +kernel
theorem dX7_part_45 : decode cX7_part 45 = .ok (.getfield 10, 3) := by decide +kernel
theorem dX7_part_48 : decode cX7_part 48 = .ok (.getfield 133, 3) := by decide +kernel
theorem dX7_part_51 : decode cX7_part 51 = .ok (.iload_n 1, 1) := by decide +kernel
theorem dX7_part_52 : decode cX7_part 52 = .ok (.aaload, 1) := by decide +kernel
theorem dX7_part_53 : decode cX7_part 53 = .ok (.astore 5, 2) := by decide +kernel
theorem dX7_part_55 : decode cX7_part 55 = .ok (.iconst 3, 1) := by decide +kernel
theorem dX7_part_56 : decode cX7_part 56 = .ok (.iload_n 2, 1) := by decide +kernel
theorem dX7_part_57 : decode cX7_part 57 = .ok (.imul, 1) := by decide +kernel
theorem dX7_part_58 : decode cX7_part 58 = .ok (.iload_n 3, 1) := by decide +kernel
theorem dX7_part_59 : decode cX7_part 59 = .ok (.iadd, 1) := by decide +kernel
theorem dX7_part_60 : decode cX7_part 60 = .ok (.istore 6, 2) := by decide +kernel
theorem dX7_part_62 : decode cX7_part 62 = .ok (.iload 4, 2) := by decide +kernel
theorem dX7_part_64 : decode cX7_part 64 = .ok (.tableswitch 86 0 3 #[32, 41, 50, 59], 32) := by decide +kernel
theorem dX7_part_96 : decode cX7_part 96 = .ok (.aload 5, 2) := by decide +kernel
theorem dX7_part_98 : decode cX7_part 98 = .ok (.getfield 206, 3) := by decide +kernel
theorem dX7_part_101 : decode cX7_part 101 = .ok (.iload 6, 2) := by decide +kernel
theorem dX7_part_103 : decode cX7_part 103 = .ok (.iaload, 1) := by decide +kernel
theorem dX7_part_104 : decode cX7_part 104 = .ok (.ireturn, 1) := by decide +kernel
theorem dX7_part_105 : decode cX7_part 105 = .ok (.aload 5, 2) := by decide +kernel
theorem dX7_part_107 : decode cX7_part 107 = .ok (.getfield 209, 3) := by decide +kernel
theorem dX7_part_110 : decode cX7_part 110 = .ok (.iload 6, 2) := by decide +kernel
theorem dX7_part_112 : decode cX7_part 112 = .ok (.iaload, 1) := by decide +kernel
theorem dX7_part_113 : decode cX7_part 113 = .ok (.ireturn, 1) := by decide +kernel
theorem dX7_part_114 : decode cX7_part 114 = .ok (.aload 5, 2) := by decide +kernel
theorem dX7_part_116 : decode cX7_part 116 = .ok (.getfield 212, 3) := by decide +kernel
theorem dX7_part_119 : decode cX7_part 119 = .ok (.iload 6, 2) := by decide +kernel
theorem dX7_part_121 : decode cX7_part 121 = .ok (.iaload, 1) := by decide +kernel
theorem dX7_part_122 : decode cX7_part 122 = .ok (.ireturn, 1) := by decide +kernel
theorem dX7_part_123 : decode cX7_part 123 = .ok (.aload_n 0, 1) := by decide +kernel
theorem dX7_part_124 : decode cX7_part 124 = .ok (.getfield 41, 3) := by decide +kernel
theorem dX7_part_127 : decode cX7_part 127 = .ok (.aload 5, 2) := by decide +kernel
theorem dX7_part_129 : decode cX7_part 129 = .ok (.aload_n 0, 1) := by decide +kernel
theorem dX7_part_130 : decode cX7_part 130 = .ok (.getfield 10, 3) := by decide +kernel
theorem dX7_part_133 : decode cX7_part 133 = .ok (.getfield 137, 3) := by decide +kernel
theorem dX7_part_136 : decode cX7_part 136 = .ok (.invokevirtual 141, 3) := by decide +kernel
theorem dX7_part_139 : decode cX7_part 139 = .ok (.aload_n 0, 1) := by decide +kernel
theorem dX7_part_140 : decode cX7_part 140 = .ok (.getfield 41, 3) := by decide +kernel
theorem dX7_part_143 : decode cX7_part 143 = .ok (.getfield 215, 3) := by decide +kernel
theorem dX7_part_146 : decode cX7_part 146 = .ok (.iload 6, 2) := by decide +kernel
theorem dX7_part_148 : decode cX7_part 148 = .ok (.iaload, 1) := by decide +kernel
theorem dX7_part_149 : decode cX7_part 149 = .ok (.ireturn, 1) := by decide +kernel
theorem dX7_part_150 : decode cX7_part 150 = .ok (.aload_n 0, 1) := by decide +kernel
theorem dX7_part_151 : decode cX7_part 151 = .ok (.getfield 41, 3) := by decide +kernel
theorem dX7_part_154 : decode cX7_part 154 = .ok (.aload 5, 2) := by decide +kernel
theorem dX7_part_156 : decode cX7_part 156 = .ok (.aload_n 0, 1) := by decide +kernel
theorem dX7_part_157 : decode cX7_part 157 = .ok (.getfield 10, 3) := by decide +kernel
theorem dX7_part_160 : decode cX7_part 160 = .ok (.getfield 137, 3) := by decide +kernel
theorem dX7_part_163 : decode cX7_part 163 = .ok (.invokevirtual 141, 3) := by decide +kernel
theorem dX7_part_166 : decode cX7_part 166 = .ok (.aload_n 0, 1) := by decide +kernel
theorem dX7_part_167 : decode cX7_part 167 = .ok (.getfield 41, 3) := by decide +kernel
theorem dX7_part_170 : decode cX7_part 170 = .ok (.getfield 218, 3) := by decide +kernel
theorem dX7_part_173 : decode cX7_part 173 = .ok (.iload 6, 2) := by decide +kernel
theorem dX7_part_175 : decode cX7_part 175 = .ok (.iaload, 1) := by decide +kernel
theorem dX7_part_176 : decode cX7_part 176 = .ok (.ireturn, 1) := by decide +kernel
theorem dX7_setting_0 : decode cX7_setting 0 = .ok (.iload_n 1, 1) := by decide +kernel
theorem dX7_setting_1 : decode cX7_setting 1 = .ok (.ifCond .lt 8, 3) := by decide +kernel
theorem dX7_setting_4 : decode cX7_setting 4 = .ok (.iload_n 1, 1) := by decide +kernel
theorem dX7_setting_5 : decode cX7_setting 5 = .ok (.iconst 5, 1) := by decide +kernel
theorem dX7_setting_6 : decode cX7_setting 6 = .ok (.if_icmp .lt 13, 3) := by decide +kernel
theorem dX7_setting_9 : decode cX7_setting 9 = .ok (.new 69, 3) := by decide +kernel
theorem dX7_setting_12 : decode cX7_setting 12 = .ok (.dup, 1) := by decide +kernel
theorem dX7_setting_13 : decode cX7_setting 13 = .ok (.ldc 204, 2) := by decide +kernel
theorem dX7_setting_15 : decode cX7_setting 15 = .ok (.invokespecial 73, 3) := by decide +kernel
theorem dX7_setting_18 : decode cX7_setting 18 = .ok (.athrow, 1) := by decide +kernel
theorem dX7_setting_19 : decode cX7_setting 19 = .ok (.aload_n 0, 1) := by decide +kernel
theorem dX7_setting_20 : decode cX7_setting 20 = .ok (.getfield 10, 3) := by decide +kernel
theorem dX7_setting_23 : decode cX7_setting 23 = .ok (.getfield 137, 3) := by decide +kernel
theorem dX7_setting_26 : decode cX7_setting 26 = .ok (.iload_n 1, 1) := by decide +kernel
theorem dX7_setting_27 : decode cX7_setting 27 = .ok (.iaload, 1) := by decide +kernel
theorem dX7_setting_28 : decode cX7_setting 28 = .ok (.ireturn, 1) := by decide +kernel
theorem dX7_add_0 : decode cX7_add 0 = .ok (.aload_n 0, 1) := by decide +kernel
theorem dX7_add_1 : decode cX7_add 1 = .ok (.getfield 10, 3) := by decide +kernel
theorem dX7_add_4 : decode cX7_add 4 = .ok (.getfield 99, 3) := by decide +kernel
theorem dX7_add_7 : decode cX7_add 7 = .ok (.iconst 4, 1) := by decide +kernel
theorem dX7_add_8 : decode cX7_add 8 = .ok (.if_icmp .lt 13, 3) := by decide +kernel
theorem dX7_add_11 : decode cX7_add 11 = .ok (.new 80, 3) := by decide +kernel
theorem dX7_add_14 : decode cX7_add 14 = .ok (.dup, 1) := by decide +kernel
theorem dX7_add_15 : decode cX7_add 15 = .ok (.ldc 221, 2) := by decide +kernel
theorem dX7_add_17 : decode cX7_add 17 = .ok (.invokespecial 84, 3) := by decide +kernel
theorem dX7_add_20 : decode cX7_add 20 = .ok (.athrow, 1) := by decide +kernel
theorem dX7_add_21 : decode cX7_add 21 = .ok (.aload_n 0, 1) := by decide +kernel
theorem dX7_add_22 : decode cX7_add 22 = .ok (.getfield 19, 3) := by decide +kernel
theorem dX7_add_25 : decode cX7_add 25 = .ok (.aload_n 0, 1) := by decide +kernel
theorem dX7_add_26 : decode cX7_add 26 = .ok (.getfield 10, 3) := by decide +kernel
theorem dX7_add_29 : decode cX7_add 29 = .ok (.invokevirtual 223, 3) := by decide +kernel
theorem dX7_add_32 : decode cX7_add 32 = .ok (.aload_n 0, 1) := by decide +kernel
theorem dX7_add_33 : decode cX7_add 33 = .ok (.getfield 10, 3) := by decide +kernel
theorem dX7_add_36 : decode cX7_add 36 = .ok (.getfield 99, 3) := by decide +kernel
theorem dX7_add_39 : decode cX7_add 39 = .ok (.istore_n 1, 1) := by decide +kernel
theorem dX7_add_40 : decode cX7_add 40 = .ok (.aload_n 0, 1) := by decide +kernel
theorem dX7_add_41 : decode cX7_add 41 = .ok (.getfield 10, 3) := by decide +kernel
theorem dX7_add_44 : decode cX7_add 44 = .ok (.getfield 133, 3) := by decide +kernel
theorem dX7_add_47 : decode cX7_add 47 = .ok (.iload_n 1, 1) := by decide +kernel
theorem dX7_add_48 : decode cX7_add 48 = .ok (.aaload, 1) := by decide +kernel
theorem dX7_add_49 : decode cX7_add 49 = .ok (.invokevirtual 227, 3) := by decide +kernel
theorem dX7_add_52 : decode cX7_add 52 = .ok (.aload_n 0, 1) := by decide +kernel
theorem dX7_add_53 : decode cX7_add 53 = .ok (.getfield 10, 3) := by decide +kernel
theorem dX7_add_56 : decode cX7_add 56 = .ok (.iload_n 1, 1) := by decide +kernel
theorem dX7_add_57 : decode cX7_add 57 = .ok (.iconst 1, 1) := by decide +kernel
theorem dX7_add_58 : decode cX7_add 58 = .ok (.iadd, 1) := by decide +kernel
theorem dX7_add_59 : decode cX7_add 59 = .ok (.putfield 99, 3) := by decide +kernel
theorem dX7_add_62 : decode cX7_add 62 = .ok (.iload_n 1, 1) := by decide +kernel
theorem dX7_add_63 : decode cX7_add 63 = .ok (.ireturn, 1) := by decide +kernel
theorem dX7_program_0 : decode cX7_program 0 = .ok (.aload_n 0, 1) := by decide +kernel
theorem dX7_program_1 : decode cX7_program 1 = .ok (.getfield 10, 3) := by decide +kernel
theorem dX7_program_4 : decode cX7_program 4 = .ok (.iload_n 1, 1) := by decide +kernel
theorem dX7_program_5 : decode cX7_program 5 = .ok (.invokevirtual 122, 3) := by decide +kernel
theorem dX7_program_8 : decode cX7_program 8 = .ok (.ifCond .ne 13, 3) := by decide +kernel
theorem dX7_program_11 : decode cX7_program 11 = .ok (.new 126, 3) := by decide +kernel
theorem dX7_program_14 : decode cX7_program 14 = .ok (.dup, 1) := by decide +kernel
theorem dX7_program_15 : decode cX7_program 15 = .ok (.ldc 128, 2) := by decide +kernel
theorem dX7_program_17 : decode cX7_program 17 = .ok (.invokespecial 130, 3) := by decide +kernel
theorem dX7_program_20 : decode cX7_program 20 = .ok (.athrow, 1) := by decide +kernel
theorem dX7_program_21 : decode cX7_program 21 = .ok (.aload_n 0, 1) := by decide +kernel
theorem dX7_program_22 : decode cX7_program 22 = .ok (.getfield 34, 3) := by decide +kernel
theorem dX7_program_25 : decode cX7_program 25 = .ok (.aload_n 0, 1) := by decide +kernel
theorem dX7_program_26 : decode cX7_program 26 = .ok (.getfield 65, 3) := by decide +kernel
theorem dX7_program_29 : decode cX7_program 29 = .ok (.invokevirtual 93, 3) := by decide +kernel
theorem dX7_program_32 : decode cX7_program 32 = .ok (.iconst (-1), 1) := by decide +kernel
theorem dX7_program_33 : decode cX7_program 33 = .ok (.if_icmp .eq 13, 3) := by decide +kernel
theorem dX7_program_36 : decode cX7_program 36 = .ok (.new 80, 3) := by decide +kernel
theorem dX7_program_39 : decode cX7_program 39 = .ok (.dup, 1) := by decide +kernel
theorem dX7_program_40 : decode cX7_program 40 = .ok (.ldc 230, 2) := by decide +kernel
theorem dX7_program_42 : decode cX7_program 42 = .ok (.invokespecial 84, 3) := by decide +kernel
theorem dX7_program_45 : decode cX7_program 45 = .ok (.athrow, 1) := by decide +kernel
theorem dX7_program_46 : decode cX7_program 46 = .ok (.aload_n 0, 1) := by decide +kernel
theorem dX7_program_47 : decode cX7_program 47 = .ok (.getfield 19, 3) := by decide +kernel
theorem dX7_program_50 : decode cX7_program 50 = .ok (.aload_n 0, 1) := by decide +kernel
theorem dX7_program_51 : decode cX7_program 51 = .ok (.getfield 10, 3) := by decide +kernel
theorem dX7_program_54 : decode cX7_program 54 = .ok (.invokevirtual 223, 3) := by decide +kernel
theorem dX7_program_57 : decode cX7_program 57 = .ok (.aload_n 0, 1) := by decide +kernel
theorem dX7_program_58 : decode cX7_program 58 = .ok (.getfield 10, 3) := by decide +kernel
theorem dX7_program_61 : decode cX7_program 61 = .ok (.getfield 133, 3) := by decide +kernel
theorem dX7_program_64 : decode cX7_program 64 = .ok (.iload_n 1, 1) := by decide +kernel
theorem dX7_program_65 : decode cX7_program 65 = .ok (.aaload, 1) := by decide +kernel
theorem dX7_program_66 : decode cX7_program 66 = .ok (.astore_n 2, 1) := by decide +kernel
theorem dX7_program_67 : decode cX7_program 67 = .ok (.aload_n 2, 1) := by decide +kernel
theorem dX7_program_68 : decode cX7_program 68 = .ok (.aload_n 0, 1) := by decide +kernel
theorem dX7_program_69 : decode cX7_program 69 = .ok (.getfield 65, 3) := by decide +kernel
theorem dX7_program_72 : decode cX7_program 72 = .ok (.invokevirtual 232, 3) := by decide +kernel
theorem dX7_program_75 : decode cX7_program 75 = .ok (.aload_n 2, 1) := by decide +kernel
theorem dX7_program_76 : decode cX7_program 76 = .ok (.getfield 145, 3) := by decide +kernel
theorem dX7_program_79 : decode cX7_program 79 = .ok (.ireturn, 1) := by decide +kernel
theorem dX7_mark_0 : decode cX7_mark 0 = .ok (.aload_n 0, 1) := by decide +kernel
theorem dX7_mark_1 : decode cX7_mark 1 = .ok (.getfield 10, 3) := by decide +kernel
theorem dX7_mark_4 : decode cX7_mark 4 = .ok (.iload_n 1, 1) := by decide +kernel
theorem dX7_mark_5 : decode cX7_mark 5 = .ok (.iload_n 2, 1) := by decide +kernel
theorem dX7_mark_6 : decode cX7_mark 6 = .ok (.invokevirtual 166, 3) := by decide +kernel
theorem dX7_mark_9 : decode cX7_mark 9 = .ok (.ifCond .ne 13, 3) := by decide +kernel
theorem dX7_mark_12 : decode cX7_mark 12 = .ok (.new 126, 3) := by decide +kernel
theorem dX7_mark_15 : decode cX7_mark 15 = .ok (.dup, 1) := by decide +kernel
theorem dX7_mark_16 : decode cX7_mark 16 = .ok (.ldc 170, 2) := by decide +kernel
theorem dX7_mark_18 : decode cX7_mark 18 = .ok (.invokespecial 130, 3) := by decide +kernel
theorem dX7_mark_21 : decode cX7_mark 21 = .ok (.athrow, 1) := by decide +kernel
theorem dX7_mark_22 : decode cX7_mark 22 = .ok (.iload_n 3, 1) := by decide +kernel
theorem dX7_mark_23 : decode cX7_mark 23 = .ok (.ifCond .lt 9, 3) := by decide +kernel
theorem dX7_mark_26 : decode cX7_mark 26 = .ok (.iload_n 3, 1) := by decide +kernel
theorem dX7_mark_27 : decode cX7_mark 27 = .ok (.ldc 236, 2) := by decide +kernel
theorem dX7_mark_29 : decode cX7_mark 29 = .ok (.if_icmp .le 13, 3) := by decide +kernel
theorem dX7_mark_32 : decode cX7_mark 32 = .ok (.new 69, 3) := by decide +kernel
theorem dX7_mark_35 : decode cX7_mark 35 = .ok (.dup, 1) := by decide +kernel
theorem dX7_mark_36 : decode cX7_mark 36 = .ok (.ldc 237, 2) := by decide +kernel
theorem dX7_mark_38 : decode cX7_mark 38 = .ok (.invokespecial 73, 3) := by decide +kernel
theorem dX7_mark_41 : decode cX7_mark 41 = .ok (.athrow, 1) := by decide +kernel
theorem dX7_mark_42 : decode cX7_mark 42 = .ok (.aload_n 0, 1) := by decide +kernel
theorem dX7_mark_43 : decode cX7_mark 43 = .ok (.getfield 19, 3) := by decide +kernel
theorem dX7_mark_46 : decode cX7_mark 46 = .ok (.aload_n 0, 1) := by decide +kernel
theorem dX7_mark_47 : decode cX7_mark 47 = .ok (.getfield 10, 3) := by decide +kernel
theorem dX7_mark_50 : decode cX7_mark 50 = .ok (.invokevirtual 223, 3) := by decide +kernel
theorem dX7_mark_53 : decode cX7_mark 53 = .ok (.iload_n 3, 1) := by decide +kernel
theorem dX7_mark_54 : decode cX7_mark 54 = .ok (.invokestatic 239, 3) := by decide +kernel
theorem dX7_mark_57 : decode cX7_mark 57 = .ok (.istore 4, 2) := by decide +kernel
theorem dX7_mark_59 : decode cX7_mark 59 = .ok (.aload_n 0, 1) := by decide +kernel
theorem dX7_mark_60 : decode cX7_mark 60 = .ok (.getfield 10, 3) := by decide +kernel
theorem dX7_mark_63 : decode cX7_mark 63 = .ok (.iload_n 1, 1) := by decide +kernel
theorem dX7_mark_64 : decode cX7_mark 64 = .ok (.iload_n 2, 1) := by decide +kernel
theorem dX7_mark_65 : decode cX7_mark 65 = .ok (.iload 4, 2) := by decide +kernel
theorem dX7_mark_67 : decode cX7_mark 67 = .ok (.invokevirtual 242, 3) := by decide +kernel
theorem dX7_mark_70 : decode cX7_mark 70 = .ok (.iload 4, 2) := by decide +kernel
theorem dX7_mark_72 : decode cX7_mark 72 = .ok (.ireturn, 1) := by decide +kernel
theorem dX7_component_0 : decode cX7_component 0 = .ok (.aload_n 0, 1) := by decide +kernel
theorem dX7_component_1 : decode cX7_component 1 = .ok (.getfield 10, 3) := by decide +kernel
theorem dX7_component_4 : decode cX7_component 4 = .ok (.iload_n 1, 1) := by decide +kernel
theorem dX7_component_5 : decode cX7_component 5 = .ok (.invokevirtual 122, 3) := by decide +kernel
theorem dX7_component_8 : decode cX7_component 8 = .ok (.ifCond .eq 12, 3) := by decide +kernel
theorem dX7_component_11 : decode cX7_component 11 = .ok (.iload_n 2, 1) := by decide +kernel
theorem dX7_component_12 : decode cX7_component 12 = .ok (.ifCond .lt 8, 3) := by decide +kernel
theorem dX7_component_15 : decode cX7_component 15 = .ok (.iload_n 2, 1) := by decide +kernel
theorem dX7_component_16 : decode cX7_component 16 = .ok (.iconst 3, 1) := by decide +kernel
theorem dX7_component_17 : decode cX7_component 17 = .ok (.if_icmp .lt 13, 3) := by decide +kernel
theorem dX7_component_20 : decode cX7_component 20 = .ok (.new 126, 3) := by decide +kernel
theorem dX7_component_23 : decode cX7_component 23 = .ok (.dup, 1) := by decide +kernel
theorem dX7_component_24 : decode cX7_component 24 = .ok (.ldc 246, 2) := by decide +kernel
theorem dX7_component_26 : decode cX7_component 26 = .ok (.invokespecial 130, 3) := by decide +kernel
theorem dX7_component_29 : decode cX7_component 29 = .ok (.athrow, 1) := by decide +kernel
theorem dX7_component_30 : decode cX7_component 30 = .ok (.iload_n 3, 1) := by decide +kernel
theorem dX7_component_31 : decode cX7_component 31 = .ok (.ifCond .lt 9, 3) := by decide +kernel
theorem dX7_component_34 : decode cX7_component 34 = .ok (.iload_n 3, 1) := by decide +kernel
theorem dX7_component_35 : decode cX7_component 35 = .ok (.ldc 248, 2) := by decide +kernel
theorem dX7_component_37 : decode cX7_component 37 = .ok (.if_icmp .le 13, 3) := by decide +kernel
theorem dX7_component_40 : decode cX7_component 40 = .ok (.new 69, 3) := by decide +kernel
theorem dX7_component_43 : decode cX7_component 43 = .ok (.dup, 1) := by decide +kernel
theorem dX7_component_44 : decode cX7_component 44 = .ok (.ldc 249, 2) := by decide +kernel
theorem dX7_component_46 : decode cX7_component 46 = .ok (.invokespecial 73, 3) := by decide +kernel
theorem dX7_component_49 : decode cX7_component 49 = .ok (.athrow, 1) := by decide +kernel
theorem dX7_component_50 : decode cX7_component 50 = .ok (.aload_n 0, 1) := by decide +kernel
theorem dX7_component_51 : decode cX7_component 51 = .ok (.getfield 19, 3) := by decide +kernel
theorem dX7_component_54 : decode cX7_component 54 = .ok (.aload_n 0, 1) := by decide +kernel
theorem dX7_component_55 : decode cX7_component 55 = .ok (.getfield 10, 3) := by decide +kernel
theorem dX7_component_58 : decode cX7_component 58 = .ok (.invokevirtual 223, 3) := by decide +kernel
theorem dX7_component_61 : decode cX7_component 61 = .ok (.iload_n 3, 1) := by decide +kernel
theorem dX7_component_62 : decode cX7_component 62 = .ok (.invokestatic 251, 3) := by decide +kernel
theorem dX7_component_65 : decode cX7_component 65 = .ok (.istore 4, 2) := by decide +kernel
theorem dX7_component_67 : decode cX7_component 67 = .ok (.aload_n 0, 1) := by decide +kernel
theorem dX7_component_68 : decode cX7_component 68 = .ok (.getfield 10, 3) := by decide +kernel
theorem dX7_component_71 : decode cX7_component 71 = .ok (.iload_n 1, 1) := by decide +kernel
theorem dX7_component_72 : decode cX7_component 72 = .ok (.iload_n 2, 1) := by decide +kernel
theorem dX7_component_73 : decode cX7_component 73 = .ok (.iload 4, 2) := by decide +kernel
theorem dX7_component_75 : decode cX7_component 75 = .ok (.invokevirtual 254, 3) := by decide +kernel
theorem dX7_component_78 : decode cX7_component 78 = .ok (.iload 4, 2) := by decide +kernel
theorem dX7_component_80 : decode cX7_component 80 = .ok (.ireturn, 1) := by decide +kernel
theorem dX7_call_0 : decode cX7_call 0 = .ok (.aload_n 0, 1) := by decide +kernel
theorem dX7_call_1 : decode cX7_call 1 = .ok (.iload_n 1, 1) := by decide +kernel
theorem dX7_call_2 : decode cX7_call 2 = .ok (.iload_n 2, 1) := by decide +kernel
theorem dX7_call_3 : decode cX7_call 3 = .ok (.iload_n 3, 1) := by decide +kernel
theorem dX7_call_4 : decode cX7_call 4 = .ok (.iload 4, 2) := by decide +kernel
theorem dX7_call_6 : decode cX7_call 6 = .ok (.invokevirtual 257, 3) := by decide +kernel
theorem dX7_call_9 : decode cX7_call 9 = .ok (.aload_n 0, 1) := by decide +kernel
theorem dX7_call_10 : decode cX7_call 10 = .ok (.getfield 19, 3) := by decide +kernel
theorem dX7_call_13 : decode cX7_call 13 = .ok (.aload_n 0, 1) := by decide +kernel
theorem dX7_call_14 : decode cX7_call 14 = .ok (.getfield 10, 3) := by decide +kernel
theorem dX7_call_17 : decode cX7_call 17 = .ok (.invokevirtual 223, 3) := by decide +kernel
theorem dX7_call_20 : decode cX7_call 20 = .ok (.aload_n 0, 1) := by decide +kernel
theorem dX7_call_21 : decode cX7_call 21 = .ok (.getfield 10, 3) := by decide +kernel
theorem dX7_call_24 : decode cX7_call 24 = .ok (.getfield 133, 3) := by decide +kernel
theorem dX7_call_27 : decode cX7_call 27 = .ok (.iload_n 1, 1) := by decide +kernel
theorem dX7_call_28 : decode cX7_call 28 = .ok (.aaload, 1) := by decide +kernel
theorem dX7_call_29 : decode cX7_call 29 = .ok (.getfield 212, 3) := by decide +kernel
theorem dX7_call_32 : decode cX7_call 32 = .ok (.iconst 3, 1) := by decide +kernel
theorem dX7_call_33 : decode cX7_call 33 = .ok (.iload_n 2, 1) := by decide +kernel
theorem dX7_call_34 : decode cX7_call 34 = .ok (.imul, 1) := by decide +kernel
theorem dX7_call_35 : decode cX7_call 35 = .ok (.iload_n 3, 1) := by decide +kernel
theorem dX7_call_36 : decode cX7_call 36 = .ok (.iadd, 1) := by decide +kernel
theorem dX7_call_37 : decode cX7_call 37 = .ok (.iaload, 1) := by decide +kernel
theorem dX7_call_38 : decode cX7_call 38 = .ok (.istore 5, 2) := by decide +kernel
theorem dX7_call_40 : decode cX7_call 40 = .ok (.aload_n 0, 1) := by decide +kernel
theorem dX7_call_41 : decode cX7_call 41 = .ok (.getfield 10, 3) := by decide +kernel
theorem dX7_call_44 : decode cX7_call 44 = .ok (.iload_n 1, 1) := by decide +kernel
theorem dX7_call_45 : decode cX7_call 45 = .ok (.iload_n 2, 1) := by decide +kernel
theorem dX7_call_46 : decode cX7_call 46 = .ok (.iload_n 3, 1) := by decide +kernel
theorem dX7_call_47 : decode cX7_call 47 = .ok (.iload 4, 2) := by decide +kernel
theorem dX7_call_49 : decode cX7_call 49 = .ok (.invokevirtual 261, 3) := by decide +kernel
theorem dX7_call_52 : decode cX7_call 52 = .ok (.pop, 1) := by decide +kernel
theorem dX7_call_53 : decode cX7_call 53 = .ok (.iload 5, 2) := by decide +kernel
theorem dX7_call_55 : decode cX7_call 55 = .ok (.ireturn, 1) := by decide +kernel
theorem dX7_review_0 : decode cX7_review 0 = .ok (.aload_n 0, 1) := by decide +kernel
theorem dX7_review_1 : decode cX7_review 1 = .ok (.getfield 10, 3) := by decide +kernel
theorem dX7_review_4 : decode cX7_review 4 = .ok (.iload_n 1, 1) := by decide +kernel
theorem dX7_review_5 : decode cX7_review 5 = .ok (.iload_n 2, 1) := by decide +kernel
theorem dX7_review_6 : decode cX7_review 6 = .ok (.invokevirtual 166, 3) := by decide +kernel
theorem dX7_review_9 : decode cX7_review 9 = .ok (.ifCond .ne 13, 3) := by decide +kernel
theorem dX7_review_12 : decode cX7_review 12 = .ok (.new 126, 3) := by decide +kernel
theorem dX7_review_15 : decode cX7_review 15 = .ok (.dup, 1) := by decide +kernel
theorem dX7_review_16 : decode cX7_review 16 = .ok (.ldc 170, 2) := by decide +kernel
theorem dX7_review_18 : decode cX7_review 18 = .ok (.invokespecial 130, 3) := by decide +kernel
theorem dX7_review_21 : decode cX7_review 21 = .ok (.athrow, 1) := by decide +kernel
theorem dX7_review_22 : decode cX7_review 22 = .ok (.aload_n 0, 1) := by decide +kernel
theorem dX7_review_23 : decode cX7_review 23 = .ok (.getfield 19, 3) := by decide +kernel
theorem dX7_review_26 : decode cX7_review 26 = .ok (.aload_n 0, 1) := by decide +kernel
theorem dX7_review_27 : decode cX7_review 27 = .ok (.getfield 10, 3) := by decide +kernel
theorem dX7_review_30 : decode cX7_review 30 = .ok (.invokevirtual 223, 3) := by decide +kernel
theorem dX7_review_33 : decode cX7_review 33 = .ok (.aload_n 0, 1) := by decide +kernel
theorem dX7_review_34 : decode cX7_review 34 = .ok (.getfield 10, 3) := by decide +kernel
theorem dX7_review_37 : decode cX7_review 37 = .ok (.iload_n 1, 1) := by decide +kernel
theorem dX7_review_38 : decode cX7_review 38 = .ok (.iload_n 2, 1) := by decide +kernel
theorem dX7_review_39 : decode cX7_review 39 = .ok (.iload_n 3, 1) := by decide +kernel
theorem dX7_review_40 : decode cX7_review 40 = .ok (.ifCond .eq 7, 3) := by decide +kernel
theorem dX7_review_43 : decode cX7_review 43 = .ok (.iconst 1, 1) := by decide +kernel
theorem dX7_review_44 : decode cX7_review 44 = .ok (.goto 4, 3) := by decide +kernel
theorem dX7_review_47 : decode cX7_review 47 = .ok (.iconst 0, 1) := by decide +kernel
theorem dX7_review_48 : decode cX7_review 48 = .ok (.invokevirtual 265, 3) := by decide +kernel
theorem dX7_review_51 : decode cX7_review 51 = .ok (.pop, 1) := by decide +kernel
theorem dX7_review_52 : decode cX7_review 52 = .ok (.aload_n 0, 1) := by decide +kernel
theorem dX7_review_53 : decode cX7_review 53 = .ok (.getfield 10, 3) := by decide +kernel
theorem dX7_review_56 : decode cX7_review 56 = .ok (.invokevirtual 102, 3) := by decide +kernel
theorem dX7_review_59 : decode cX7_review 59 = .ok (.ireturn, 1) := by decide +kernel
theorem dX7_fall_0 : decode cX7_fall 0 = .ok (.aload_n 0, 1) := by decide +kernel
theorem dX7_fall_1 : decode cX7_fall 1 = .ok (.getfield 10, 3) := by decide +kernel
theorem dX7_fall_4 : decode cX7_fall 4 = .ok (.iload_n 1, 1) := by decide +kernel
theorem dX7_fall_5 : decode cX7_fall 5 = .ok (.iload_n 2, 1) := by decide +kernel
theorem dX7_fall_6 : decode cX7_fall 6 = .ok (.invokevirtual 166, 3) := by decide +kernel
theorem dX7_fall_9 : decode cX7_fall 9 = .ok (.ifCond .ne 13, 3) := by decide +kernel
theorem dX7_fall_12 : decode cX7_fall 12 = .ok (.new 126, 3) := by decide +kernel
theorem dX7_fall_15 : decode cX7_fall 15 = .ok (.dup, 1) := by decide +kernel
theorem dX7_fall_16 : decode cX7_fall 16 = .ok (.ldc 170, 2) := by decide +kernel
theorem dX7_fall_18 : decode cX7_fall 18 = .ok (.invokespecial 130, 3) := by decide +kernel
theorem dX7_fall_21 : decode cX7_fall 21 = .ok (.athrow, 1) := by decide +kernel
theorem dX7_fall_22 : decode cX7_fall 22 = .ok (.aload_n 0, 1) := by decide +kernel
theorem dX7_fall_23 : decode cX7_fall 23 = .ok (.getfield 19, 3) := by decide +kernel
theorem dX7_fall_26 : decode cX7_fall 26 = .ok (.aload_n 0, 1) := by decide +kernel
theorem dX7_fall_27 : decode cX7_fall 27 = .ok (.getfield 10, 3) := by decide +kernel
theorem dX7_fall_30 : decode cX7_fall 30 = .ok (.invokevirtual 223, 3) := by decide +kernel
theorem dX7_fall_33 : decode cX7_fall 33 = .ok (.aload_n 0, 1) := by decide +kernel
theorem dX7_fall_34 : decode cX7_fall 34 = .ok (.getfield 10, 3) := by decide +kernel
theorem dX7_fall_37 : decode cX7_fall 37 = .ok (.iload_n 1, 1) := by decide +kernel
theorem dX7_fall_38 : decode cX7_fall 38 = .ok (.iload_n 2, 1) := by decide +kernel
theorem dX7_fall_39 : decode cX7_fall 39 = .ok (.iload_n 3, 1) := by decide +kernel
theorem dX7_fall_40 : decode cX7_fall 40 = .ok (.ifCond .eq 7, 3) := by decide +kernel
theorem dX7_fall_43 : decode cX7_fall 43 = .ok (.iconst 1, 1) := by decide +kernel
theorem dX7_fall_44 : decode cX7_fall 44 = .ok (.goto 4, 3) := by decide +kernel
theorem dX7_fall_47 : decode cX7_fall 47 = .ok (.iconst 0, 1) := by decide +kernel
theorem dX7_fall_48 : decode cX7_fall 48 = .ok (.invokevirtual 268, 3) := by decide +kernel
theorem dX7_fall_51 : decode cX7_fall 51 = .ok (.pop, 1) := by decide +kernel
theorem dX7_fall_52 : decode cX7_fall 52 = .ok (.aload_n 0, 1) := by decide +kernel
theorem dX7_fall_53 : decode cX7_fall 53 = .ok (.getfield 10, 3) := by decide +kernel
theorem dX7_fall_56 : decode cX7_fall 56 = .ok (.getfield 133, 3) := by decide +kernel
theorem dX7_fall_59 : decode cX7_fall 59 = .ok (.iload_n 1, 1) := by decide +kernel
theorem dX7_fall_60 : decode cX7_fall 60 = .ok (.aaload, 1) := by decide +kernel
theorem dX7_fall_61 : decode cX7_fall 61 = .ok (.invokevirtual 164, 3) := by decide +kernel
theorem dX7_fall_64 : decode cX7_fall 64 = .ok (.ireturn, 1) := by decide +kernel
theorem dX7_penalty_0 : decode cX7_penalty 0 = .ok (.aload_n 0, 1) := by decide +kernel
theorem dX7_penalty_1 : decode cX7_penalty 1 = .ok (.getfield 10, 3) := by decide +kernel
theorem dX7_penalty_4 : decode cX7_penalty 4 = .ok (.iload_n 1, 1) := by decide +kernel
theorem dX7_penalty_5 : decode cX7_penalty 5 = .ok (.invokevirtual 122, 3) := by decide +kernel
theorem dX7_penalty_8 : decode cX7_penalty 8 = .ok (.ifCond .ne 13, 3) := by decide +kernel
theorem dX7_penalty_11 : decode cX7_penalty 11 = .ok (.new 126, 3) := by decide +kernel
theorem dX7_penalty_14 : decode cX7_penalty 14 = .ok (.dup, 1) := by decide +kernel
theorem dX7_penalty_15 : decode cX7_penalty 15 = .ok (.ldc 128, 2) := by decide +kernel
theorem dX7_penalty_17 : decode cX7_penalty 17 = .ok (.invokespecial 130, 3) := by decide +kernel
theorem dX7_penalty_20 : decode cX7_penalty 20 = .ok (.athrow, 1) := by decide +kernel
theorem dX7_penalty_21 : decode cX7_penalty 21 = .ok (.iload_n 2, 1) := by decide +kernel
theorem dX7_penalty_22 : decode cX7_penalty 22 = .ok (.ifCond .lt 9, 3) := by decide +kernel
theorem dX7_penalty_25 : decode cX7_penalty 25 = .ok (.iload_n 2, 1) := by decide +kernel
theorem dX7_penalty_26 : decode cX7_penalty 26 = .ok (.bipush 9, 2) := by decide +kernel
theorem dX7_penalty_28 : decode cX7_penalty 28 = .ok (.if_icmp .le 14, 3) := by decide +kernel
theorem dX7_penalty_31 : decode cX7_penalty 31 = .ok (.new 69, 3) := by decide +kernel
theorem dX7_penalty_34 : decode cX7_penalty 34 = .ok (.dup, 1) := by decide +kernel
theorem dX7_penalty_35 : decode cX7_penalty 35 = .ok (.ldc_w 271, 3) := by decide +kernel
theorem dX7_penalty_38 : decode cX7_penalty 38 = .ok (.invokespecial 73, 3) := by decide +kernel
theorem dX7_penalty_41 : decode cX7_penalty 41 = .ok (.athrow, 1) := by decide +kernel
theorem dX7_penalty_42 : decode cX7_penalty 42 = .ok (.aload_n 0, 1) := by decide +kernel
theorem dX7_penalty_43 : decode cX7_penalty 43 = .ok (.getfield 19, 3) := by decide +kernel
theorem dX7_penalty_46 : decode cX7_penalty 46 = .ok (.aload_n 0, 1) := by decide +kernel
theorem dX7_penalty_47 : decode cX7_penalty 47 = .ok (.getfield 10, 3) := by decide +kernel
theorem dX7_penalty_50 : decode cX7_penalty 50 = .ok (.invokevirtual 223, 3) := by decide +kernel
theorem dX7_penalty_53 : decode cX7_penalty 53 = .ok (.aload_n 0, 1) := by decide +kernel
theorem dX7_penalty_54 : decode cX7_penalty 54 = .ok (.getfield 10, 3) := by decide +kernel
theorem dX7_penalty_57 : decode cX7_penalty 57 = .ok (.getfield 133, 3) := by decide +kernel
theorem dX7_penalty_60 : decode cX7_penalty 60 = .ok (.iload_n 1, 1) := by decide +kernel
theorem dX7_penalty_61 : decode cX7_penalty 61 = .ok (.aaload, 1) := by decide +kernel
theorem dX7_penalty_62 : decode cX7_penalty 62 = .ok (.getfield 273, 3) := by decide +kernel
theorem dX7_penalty_65 : decode cX7_penalty 65 = .ok (.istore_n 3, 1) := by decide +kernel
theorem dX7_penalty_66 : decode cX7_penalty 66 = .ok (.aload_n 0, 1) := by decide +kernel
theorem dX7_penalty_67 : decode cX7_penalty 67 = .ok (.getfield 10, 3) := by decide +kernel
theorem dX7_penalty_70 : decode cX7_penalty 70 = .ok (.iload_n 1, 1) := by decide +kernel
theorem dX7_penalty_71 : decode cX7_penalty 71 = .ok (.iload_n 2, 1) := by decide +kernel
theorem dX7_penalty_72 : decode cX7_penalty 72 = .ok (.invokevirtual 276, 3) := by decide +kernel
theorem dX7_penalty_75 : decode cX7_penalty 75 = .ok (.pop, 1) := by decide +kernel
theorem dX7_penalty_76 : decode cX7_penalty 76 = .ok (.iload_n 3, 1) := by decide +kernel
theorem dX7_penalty_77 : decode cX7_penalty 77 = .ok (.ireturn, 1) := by decide +kernel
theorem dX7_set_0 : decode cX7_set 0 = .ok (.iload_n 1, 1) := by decide +kernel
theorem dX7_set_1 : decode cX7_set 1 = .ok (.iload_n 2, 1) := by decide +kernel
theorem dX7_set_2 : decode cX7_set 2 = .ok (.invokestatic 279, 3) := by decide +kernel
theorem dX7_set_5 : decode cX7_set 5 = .ok (.ifCond .ne 14, 3) := by decide +kernel
theorem dX7_set_8 : decode cX7_set 8 = .ok (.new 69, 3) := by decide +kernel
theorem dX7_set_11 : decode cX7_set 11 = .ok (.dup, 1) := by decide +kernel
theorem dX7_set_12 : decode cX7_set 12 = .ok (.ldc_w 282, 3) := by decide +kernel
theorem dX7_set_15 : decode cX7_set 15 = .ok (.invokespecial 73, 3) := by decide +kernel
theorem dX7_set_18 : decode cX7_set 18 = .ok (.athrow, 1) := by decide +kernel
theorem dX7_set_19 : decode cX7_set 19 = .ok (.aload_n 0, 1) := by decide +kernel
theorem dX7_set_20 : decode cX7_set 20 = .ok (.getfield 19, 3) := by decide +kernel
theorem dX7_set_23 : decode cX7_set 23 = .ok (.aload_n 0, 1) := by decide +kernel
theorem dX7_set_24 : decode cX7_set 24 = .ok (.getfield 10, 3) := by decide +kernel
theorem dX7_set_27 : decode cX7_set 27 = .ok (.invokevirtual 223, 3) := by decide +kernel
theorem dX7_set_30 : decode cX7_set 30 = .ok (.aload_n 0, 1) := by decide +kernel
theorem dX7_set_31 : decode cX7_set 31 = .ok (.getfield 10, 3) := by decide +kernel
theorem dX7_set_34 : decode cX7_set 34 = .ok (.getfield 137, 3) := by decide +kernel
theorem dX7_set_37 : decode cX7_set 37 = .ok (.iload_n 1, 1) := by decide +kernel
theorem dX7_set_38 : decode cX7_set 38 = .ok (.iaload, 1) := by decide +kernel
theorem dX7_set_39 : decode cX7_set 39 = .ok (.istore_n 3, 1) := by decide +kernel
theorem dX7_set_40 : decode cX7_set 40 = .ok (.aload_n 0, 1) := by decide +kernel
theorem dX7_set_41 : decode cX7_set 41 = .ok (.getfield 10, 3) := by decide +kernel
theorem dX7_set_44 : decode cX7_set 44 = .ok (.iload_n 1, 1) := by decide +kernel
theorem dX7_set_45 : decode cX7_set 45 = .ok (.iload_n 2, 1) := by decide +kernel
theorem dX7_set_46 : decode cX7_set 46 = .ok (.invokevirtual 284, 3) := by decide +kernel
theorem dX7_set_49 : decode cX7_set 49 = .ok (.pop, 1) := by decide +kernel
theorem dX7_set_50 : decode cX7_set 50 = .ok (.iload_n 3, 1) := by decide +kernel
theorem dX7_set_51 : decode cX7_set 51 = .ok (.ireturn, 1) := by decide +kernel
theorem dX7_undo_0 : decode cX7_undo 0 = .ok (.aload_n 0, 1) := by decide +kernel
theorem dX7_undo_1 : decode cX7_undo 1 = .ok (.getfield 19, 3) := by decide +kernel
theorem dX7_undo_4 : decode cX7_undo 4 = .ok (.aload_n 0, 1) := by decide +kernel
theorem dX7_undo_5 : decode cX7_undo 5 = .ok (.getfield 10, 3) := by decide +kernel
theorem dX7_undo_8 : decode cX7_undo 8 = .ok (.invokevirtual 287, 3) := by decide +kernel
theorem dX7_undo_11 : decode cX7_undo 11 = .ok (.ifCond .ne 14, 3) := by decide +kernel
theorem dX7_undo_14 : decode cX7_undo 14 = .ok (.new 80, 3) := by decide +kernel
theorem dX7_undo_17 : decode cX7_undo 17 = .ok (.dup, 1) := by decide +kernel
theorem dX7_undo_18 : decode cX7_undo 18 = .ok (.ldc_w 291, 3) := by decide +kernel
theorem dX7_undo_21 : decode cX7_undo 21 = .ok (.invokespecial 84, 3) := by decide +kernel
theorem dX7_undo_24 : decode cX7_undo 24 = .ok (.athrow, 1) := by decide +kernel
theorem dX7_undo_25 : decode cX7_undo 25 = .ok (.aload_n 0, 1) := by decide +kernel
theorem dX7_undo_26 : decode cX7_undo 26 = .ok (.getfield 19, 3) := by decide +kernel
theorem dX7_undo_29 : decode cX7_undo 29 = .ok (.getfield 293, 3) := by decide +kernel
theorem dX7_undo_32 : decode cX7_undo 32 = .ok (.ireturn, 1) := by decide +kernel
theorem dX7_ifCalled_0 : decode cX7_ifCalled 0 = .ok (.aload_n 0, 1) := by decide +kernel
theorem dX7_ifCalled_1 : decode cX7_ifCalled 1 = .ok (.iload_n 1, 1) := by decide +kernel
theorem dX7_ifCalled_2 : decode cX7_ifCalled 2 = .ok (.iload_n 2, 1) := by decide +kernel
theorem dX7_ifCalled_3 : decode cX7_ifCalled 3 = .ok (.iload_n 3, 1) := by decide +kernel
theorem dX7_ifCalled_4 : decode cX7_ifCalled 4 = .ok (.iload 4, 2) := by decide +kernel
theorem dX7_ifCalled_6 : decode cX7_ifCalled 6 = .ok (.invokevirtual 257, 3) := by decide +kernel
theorem dX7_ifCalled_9 : decode cX7_ifCalled 9 = .ok (.aload_n 0, 1) := by decide +kernel
theorem dX7_ifCalled_10 : decode cX7_ifCalled 10 = .ok (.getfield 65, 3) := by decide +kernel
theorem dX7_ifCalled_13 : decode cX7_ifCalled 13 = .ok (.aload_n 0, 1) := by decide +kernel
theorem dX7_ifCalled_14 : decode cX7_ifCalled 14 = .ok (.getfield 10, 3) := by decide +kernel
theorem dX7_ifCalled_17 : decode cX7_ifCalled 17 = .ok (.getfield 133, 3) := by decide +kernel
theorem dX7_ifCalled_20 : decode cX7_ifCalled 20 = .ok (.iload_n 1, 1) := by decide +kernel
theorem dX7_ifCalled_21 : decode cX7_ifCalled 21 = .ok (.aaload, 1) := by decide +kernel
theorem dX7_ifCalled_22 : decode cX7_ifCalled 22 = .ok (.invokevirtual 296, 3) := by decide +kernel
theorem dX7_ifCalled_25 : decode cX7_ifCalled 25 = .ok (.aload_n 0, 1) := by decide +kernel
theorem dX7_ifCalled_26 : decode cX7_ifCalled 26 = .ok (.getfield 65, 3) := by decide +kernel
theorem dX7_ifCalled_29 : decode cX7_ifCalled 29 = .ok (.getfield 212, 3) := by decide +kernel
theorem dX7_ifCalled_32 : decode cX7_ifCalled 32 = .ok (.iconst 3, 1) := by decide +kernel
theorem dX7_ifCalled_33 : decode cX7_ifCalled 33 = .ok (.iload_n 2, 1) := by decide +kernel
theorem dX7_ifCalled_34 : decode cX7_ifCalled 34 = .ok (.imul, 1) := by decide +kernel
theorem dX7_ifCalled_35 : decode cX7_ifCalled 35 = .ok (.iload_n 3, 1) := by decide +kernel
theorem dX7_ifCalled_36 : decode cX7_ifCalled 36 = .ok (.iadd, 1) := by decide +kernel
theorem dX7_ifCalled_37 : decode cX7_ifCalled 37 = .ok (.iload 4, 2) := by decide +kernel
theorem dX7_ifCalled_39 : decode cX7_ifCalled 39 = .ok (.iastore, 1) := by decide +kernel
theorem dX7_ifCalled_40 : decode cX7_ifCalled 40 = .ok (.aload_n 0, 1) := by decide +kernel
theorem dX7_ifCalled_41 : decode cX7_ifCalled 41 = .ok (.getfield 41, 3) := by decide +kernel
theorem dX7_ifCalled_44 : decode cX7_ifCalled 44 = .ok (.aload_n 0, 1) := by decide +kernel
theorem dX7_ifCalled_45 : decode cX7_ifCalled 45 = .ok (.getfield 65, 3) := by decide +kernel
theorem dX7_ifCalled_48 : decode cX7_ifCalled 48 = .ok (.aload_n 0, 1) := by decide +kernel
theorem dX7_ifCalled_49 : decode cX7_ifCalled 49 = .ok (.getfield 10, 3) := by decide +kernel
theorem dX7_ifCalled_52 : decode cX7_ifCalled 52 = .ok (.getfield 137, 3) := by decide +kernel
theorem dX7_ifCalled_55 : decode cX7_ifCalled 55 = .ok (.invokevirtual 141, 3) := by decide +kernel
theorem dX7_ifCalled_58 : decode cX7_ifCalled 58 = .ok (.aload_n 0, 1) := by decide +kernel
theorem dX7_ifCalled_59 : decode cX7_ifCalled 59 = .ok (.getfield 41, 3) := by decide +kernel
theorem dX7_ifCalled_62 : decode cX7_ifCalled 62 = .ok (.invokevirtual 157, 3) := by decide +kernel
theorem dX7_ifCalled_65 : decode cX7_ifCalled 65 = .ok (.ireturn, 1) := by decide +kernel
theorem dX7_ifReplaced_0 : decode cX7_ifReplaced 0 = .ok (.aload_n 0, 1) := by decide +kernel
theorem dX7_ifReplaced_1 : decode cX7_ifReplaced 1 = .ok (.getfield 10, 3) := by decide +kernel
theorem dX7_ifReplaced_4 : decode cX7_ifReplaced 4 = .ok (.iload_n 1, 1) := by decide +kernel
theorem dX7_ifReplaced_5 : decode cX7_ifReplaced 5 = .ok (.iload_n 2, 1) := by decide +kernel
theorem dX7_ifReplaced_6 : decode cX7_ifReplaced 6 = .ok (.invokevirtual 166, 3) := by decide +kernel
theorem dX7_ifReplaced_9 : decode cX7_ifReplaced 9 = .ok (.ifCond .ne 13, 3) := by decide +kernel
theorem dX7_ifReplaced_12 : decode cX7_ifReplaced 12 = .ok (.new 126, 3) := by decide +kernel
theorem dX7_ifReplaced_15 : decode cX7_ifReplaced 15 = .ok (.dup, 1) := by decide +kernel
theorem dX7_ifReplaced_16 : decode cX7_ifReplaced 16 = .ok (.ldc 170, 2) := by decide +kernel
theorem dX7_ifReplaced_18 : decode cX7_ifReplaced 18 = .ok (.invokespecial 130, 3) := by decide +kernel
theorem dX7_ifReplaced_21 : decode cX7_ifReplaced 21 = .ok (.athrow, 1) := by decide +kernel
theorem dX7_ifReplaced_22 : decode cX7_ifReplaced 22 = .ok (.aload_n 0, 1) := by decide +kernel
theorem dX7_ifReplaced_23 : decode cX7_ifReplaced 23 = .ok (.getfield 34, 3) := by decide +kernel
theorem dX7_ifReplaced_26 : decode cX7_ifReplaced 26 = .ok (.aload_n 0, 1) := by decide +kernel
theorem dX7_ifReplaced_27 : decode cX7_ifReplaced 27 = .ok (.getfield 65, 3) := by decide +kernel
theorem dX7_ifReplaced_30 : decode cX7_ifReplaced 30 = .ok (.invokevirtual 93, 3) := by decide +kernel
theorem dX7_ifReplaced_33 : decode cX7_ifReplaced 33 = .ok (.iconst (-1), 1) := by decide +kernel
theorem dX7_ifReplaced_34 : decode cX7_ifReplaced 34 = .ok (.if_icmp .ne 14, 3) := by decide +kernel
theorem dX7_ifReplaced_37 : decode cX7_ifReplaced 37 = .ok (.aload_n 0, 1) := by decide +kernel
theorem dX7_ifReplaced_38 : decode cX7_ifReplaced 38 = .ok (.getfield 65, 3) := by decide +kernel
theorem dX7_ifReplaced_41 : decode cX7_ifReplaced 41 = .ok (.getfield 145, 3) := by decide +kernel
theorem dX7_ifReplaced_44 : decode cX7_ifReplaced 44 = .ok (.iconst 1, 1) := by decide +kernel
theorem dX7_ifReplaced_45 : decode cX7_ifReplaced 45 = .ok (.if_icmp .eq 14, 3) := by decide +kernel
theorem dX7_ifReplaced_48 : decode cX7_ifReplaced 48 = .ok (.new 80, 3) := by decide +kernel
theorem dX7_ifReplaced_51 : decode cX7_ifReplaced 51 = .ok (.dup, 1) := by decide +kernel
theorem dX7_ifReplaced_52 : decode cX7_ifReplaced 52 = .ok (.ldc_w 299, 3) := by decide +kernel
theorem dX7_ifReplaced_55 : decode cX7_ifReplaced 55 = .ok (.invokespecial 84, 3) := by decide +kernel
theorem dX7_ifReplaced_58 : decode cX7_ifReplaced 58 = .ok (.athrow, 1) := by decide +kernel
theorem dX7_ifReplaced_59 : decode cX7_ifReplaced 59 = .ok (.aload_n 0, 1) := by decide +kernel
theorem dX7_ifReplaced_60 : decode cX7_ifReplaced 60 = .ok (.getfield 59, 3) := by decide +kernel
theorem dX7_ifReplaced_63 : decode cX7_ifReplaced 63 = .ok (.getfield 133, 3) := by decide +kernel
theorem dX7_ifReplaced_66 : decode cX7_ifReplaced 66 = .ok (.iload_n 1, 1) := by decide +kernel
theorem dX7_ifReplaced_67 : decode cX7_ifReplaced 67 = .ok (.aaload, 1) := by decide +kernel
theorem dX7_ifReplaced_68 : decode cX7_ifReplaced 68 = .ok (.astore_n 3, 1) := by decide +kernel
theorem dX7_ifReplaced_69 : decode cX7_ifReplaced 69 = .ok (.aload_n 3, 1) := by decide +kernel
theorem dX7_ifReplaced_70 : decode cX7_ifReplaced 70 = .ok (.aload_n 0, 1) := by decide +kernel
theorem dX7_ifReplaced_71 : decode cX7_ifReplaced 71 = .ok (.getfield 10, 3) := by decide +kernel
theorem dX7_ifReplaced_74 : decode cX7_ifReplaced 74 = .ok (.getfield 133, 3) := by decide +kernel
theorem dX7_ifReplaced_77 : decode cX7_ifReplaced 77 = .ok (.iload_n 1, 1) := by decide +kernel
theorem dX7_ifReplaced_78 : decode cX7_ifReplaced 78 = .ok (.aaload, 1) := by decide +kernel
theorem dX7_ifReplaced_79 : decode cX7_ifReplaced 79 = .ok (.invokevirtual 296, 3) := by decide +kernel
theorem dX7_ifReplaced_82 : decode cX7_ifReplaced 82 = .ok (.aload_n 3, 1) := by decide +kernel
theorem dX7_ifReplaced_83 : decode cX7_ifReplaced 83 = .ok (.iload_n 2, 1) := by decide +kernel
theorem dX7_ifReplaced_84 : decode cX7_ifReplaced 84 = .ok (.aload_n 0, 1) := by decide +kernel
theorem dX7_ifReplaced_85 : decode cX7_ifReplaced 85 = .ok (.getfield 65, 3) := by decide +kernel
theorem dX7_ifReplaced_88 : decode cX7_ifReplaced 88 = .ok (.iconst 0, 1) := by decide +kernel
theorem dX7_ifReplaced_89 : decode cX7_ifReplaced 89 = .ok (.invokevirtual 301, 3) := by decide +kernel
theorem dX7_ifReplaced_92 : decode cX7_ifReplaced 92 = .ok (.aload_n 0, 1) := by decide +kernel
theorem dX7_ifReplaced_93 : decode cX7_ifReplaced 93 = .ok (.getfield 41, 3) := by decide +kernel
theorem dX7_ifReplaced_96 : decode cX7_ifReplaced 96 = .ok (.aload_n 3, 1) := by decide +kernel
theorem dX7_ifReplaced_97 : decode cX7_ifReplaced 97 = .ok (.aload_n 0, 1) := by decide +kernel
theorem dX7_ifReplaced_98 : decode cX7_ifReplaced 98 = .ok (.getfield 10, 3) := by decide +kernel
theorem dX7_ifReplaced_101 : decode cX7_ifReplaced 101 = .ok (.getfield 137, 3) := by decide +kernel
theorem dX7_ifReplaced_104 : decode cX7_ifReplaced 104 = .ok (.invokevirtual 141, 3) := by decide +kernel
theorem dX7_ifReplaced_107 : decode cX7_ifReplaced 107 = .ok (.aload_n 0, 1) := by decide +kernel
theorem dX7_ifReplaced_108 : decode cX7_ifReplaced 108 = .ok (.getfield 41, 3) := by decide +kernel
theorem dX7_ifReplaced_111 : decode cX7_ifReplaced 111 = .ok (.invokevirtual 157, 3) := by decide +kernel
theorem dX7_ifReplaced_114 : decode cX7_ifReplaced 114 = .ok (.ireturn, 1) := by decide +kernel
theorem dX7_bestSwap_0 : decode cX7_bestSwap 0 = .ok (.aload_n 0, 1) := by decide +kernel
theorem dX7_bestSwap_1 : decode cX7_bestSwap 1 = .ok (.getfield 10, 3) := by decide +kernel
theorem dX7_bestSwap_4 : decode cX7_bestSwap 4 = .ok (.iload_n 1, 1) := by decide +kernel
theorem dX7_bestSwap_5 : decode cX7_bestSwap 5 = .ok (.invokevirtual 122, 3) := by decide +kernel
theorem dX7_bestSwap_8 : decode cX7_bestSwap 8 = .ok (.ifCond .ne 13, 3) := by decide +kernel
theorem dX7_bestSwap_11 : decode cX7_bestSwap 11 = .ok (.new 126, 3) := by decide +kernel
theorem dX7_bestSwap_14 : decode cX7_bestSwap 14 = .ok (.dup, 1) := by decide +kernel
theorem dX7_bestSwap_15 : decode cX7_bestSwap 15 = .ok (.ldc 128, 2) := by decide +kernel
theorem dX7_bestSwap_17 : decode cX7_bestSwap 17 = .ok (.invokespecial 130, 3) := by decide +kernel
theorem dX7_bestSwap_20 : decode cX7_bestSwap 20 = .ok (.athrow, 1) := by decide +kernel
theorem dX7_bestSwap_21 : decode cX7_bestSwap 21 = .ok (.iload_n 2, 1) := by decide +kernel
theorem dX7_bestSwap_22 : decode cX7_bestSwap 22 = .ok (.ifCond .lt 8, 3) := by decide +kernel
theorem dX7_bestSwap_25 : decode cX7_bestSwap 25 = .ok (.iload_n 2, 1) := by decide +kernel
theorem dX7_bestSwap_26 : decode cX7_bestSwap 26 = .ok (.iconst 2, 1) := by decide +kernel
theorem dX7_bestSwap_27 : decode cX7_bestSwap 27 = .ok (.if_icmp .le 14, 3) := by decide +kernel
theorem dX7_bestSwap_30 : decode cX7_bestSwap 30 = .ok (.new 69, 3) := by decide +kernel
theorem dX7_bestSwap_33 : decode cX7_bestSwap 33 = .ok (.dup, 1) := by decide +kernel
theorem dX7_bestSwap_34 : decode cX7_bestSwap 34 = .ok (.ldc_w 305, 3) := by decide +kernel
theorem dX7_bestSwap_37 : decode cX7_bestSwap 37 = .ok (.invokespecial 73, 3) := by decide +kernel
theorem dX7_bestSwap_40 : decode cX7_bestSwap 40 = .ok (.athrow, 1) := by decide +kernel
theorem dX7_bestSwap_41 : decode cX7_bestSwap 41 = .ok (.aload_n 0, 1) := by decide +kernel
theorem dX7_bestSwap_42 : decode cX7_bestSwap 42 = .ok (.getfield 10, 3) := by decide +kernel
theorem dX7_bestSwap_45 : decode cX7_bestSwap 45 = .ok (.getfield 133, 3) := by decide +kernel
theorem dX7_bestSwap_48 : decode cX7_bestSwap 48 = .ok (.iload_n 1, 1) := by decide +kernel
theorem dX7_bestSwap_49 : decode cX7_bestSwap 49 = .ok (.aaload, 1) := by decide +kernel
theorem dX7_bestSwap_50 : decode cX7_bestSwap 50 = .ok (.astore_n 3, 1) := by decide +kernel
theorem dX7_bestSwap_51 : decode cX7_bestSwap 51 = .ok (.aload_n 0, 1) := by decide +kernel
theorem dX7_bestSwap_52 : decode cX7_bestSwap 52 = .ok (.getfield 65, 3) := by decide +kernel
theorem dX7_bestSwap_55 : decode cX7_bestSwap 55 = .ok (.aload_n 3, 1) := by decide +kernel
theorem dX7_bestSwap_56 : decode cX7_bestSwap 56 = .ok (.invokevirtual 296, 3) := by decide +kernel
theorem dX7_bestSwap_59 : decode cX7_bestSwap 59 = .ok (.iconst 0, 1) := by decide +kernel
theorem dX7_bestSwap_60 : decode cX7_bestSwap 60 = .ok (.istore 4, 2) := by decide +kernel
theorem dX7_bestSwap_62 : decode cX7_bestSwap 62 = .ok (.iconst (-1), 1) := by decide +kernel
theorem dX7_bestSwap_63 : decode cX7_bestSwap 63 = .ok (.istore 5, 2) := by decide +kernel
theorem dX7_bestSwap_65 : decode cX7_bestSwap 65 = .ok (.iconst (-1), 1) := by decide +kernel
theorem dX7_bestSwap_66 : decode cX7_bestSwap 66 = .ok (.istore 6, 2) := by decide +kernel
theorem dX7_bestSwap_68 : decode cX7_bestSwap 68 = .ok (.iconst 0, 1) := by decide +kernel
theorem dX7_bestSwap_69 : decode cX7_bestSwap 69 = .ok (.istore 7, 2) := by decide +kernel
theorem dX7_bestSwap_71 : decode cX7_bestSwap 71 = .ok (.iload 7, 2) := by decide +kernel
theorem dX7_bestSwap_73 : decode cX7_bestSwap 73 = .ok (.aload_n 3, 1) := by decide +kernel
theorem dX7_bestSwap_74 : decode cX7_bestSwap 74 = .ok (.getfield 145, 3) := by decide +kernel
theorem dX7_bestSwap_77 : decode cX7_bestSwap 77 = .ok (.if_icmp .ge 66, 3) := by decide +kernel
theorem dX7_bestSwap_80 : decode cX7_bestSwap 80 = .ok (.iload 7, 2) := by decide +kernel
theorem dX7_bestSwap_82 : decode cX7_bestSwap 82 = .ok (.iconst 1, 1) := by decide +kernel
theorem dX7_bestSwap_83 : decode cX7_bestSwap 83 = .ok (.iadd, 1) := by decide +kernel
theorem dX7_bestSwap_84 : decode cX7_bestSwap 84 = .ok (.istore 8, 2) := by decide +kernel
theorem dX7_bestSwap_86 : decode cX7_bestSwap 86 = .ok (.iload 8, 2) := by decide +kernel
theorem dX7_bestSwap_88 : decode cX7_bestSwap 88 = .ok (.aload_n 3, 1) := by decide +kernel
theorem dX7_bestSwap_89 : decode cX7_bestSwap 89 = .ok (.getfield 145, 3) := by decide +kernel
theorem dX7_bestSwap_92 : decode cX7_bestSwap 92 = .ok (.if_icmp .ge 45, 3) := by decide +kernel
theorem dX7_bestSwap_95 : decode cX7_bestSwap 95 = .ok (.aload_n 0, 1) := by decide +kernel
theorem dX7_bestSwap_96 : decode cX7_bestSwap 96 = .ok (.aload_n 3, 1) := by decide +kernel
theorem dX7_bestSwap_97 : decode cX7_bestSwap 97 = .ok (.iload 7, 2) := by decide +kernel
theorem dX7_bestSwap_99 : decode cX7_bestSwap 99 = .ok (.iload 8, 2) := by decide +kernel
theorem dX7_bestSwap_101 : decode cX7_bestSwap 101 = .ok (.invokevirtual 307, 3) := by decide +kernel
theorem dX7_bestSwap_104 : decode cX7_bestSwap 104 = .ok (.istore 9, 2) := by decide +kernel
theorem dX7_bestSwap_106 : decode cX7_bestSwap 106 = .ok (.iload 5, 2) := by decide +kernel
theorem dX7_bestSwap_108 : decode cX7_bestSwap 108 = .ok (.iconst (-1), 1) := by decide +kernel
theorem dX7_bestSwap_109 : decode cX7_bestSwap 109 = .ok (.if_icmp .eq 10, 3) := by decide +kernel
theorem dX7_bestSwap_112 : decode cX7_bestSwap 112 = .ok (.iload 9, 2) := by decide +kernel
theorem dX7_bestSwap_114 : decode cX7_bestSwap 114 = .ok (.iload 4, 2) := by decide +kernel
theorem dX7_bestSwap_116 : decode cX7_bestSwap 116 = .ok (.if_icmp .le 15, 3) := by decide +kernel
theorem dX7_bestSwap_119 : decode cX7_bestSwap 119 = .ok (.iload 9, 2) := by decide +kernel
theorem dX7_bestSwap_121 : decode cX7_bestSwap 121 = .ok (.istore 4, 2) := by decide +kernel
theorem dX7_bestSwap_123 : decode cX7_bestSwap 123 = .ok (.iload 7, 2) := by decide +kernel
theorem dX7_bestSwap_125 : decode cX7_bestSwap 125 = .ok (.istore 5, 2) := by decide +kernel
theorem dX7_bestSwap_127 : decode cX7_bestSwap 127 = .ok (.iload 8, 2) := by decide +kernel
theorem dX7_bestSwap_129 : decode cX7_bestSwap 129 = .ok (.istore 6, 2) := by decide +kernel
theorem dX7_bestSwap_131 : decode cX7_bestSwap 131 = .ok (.iinc 8 1, 3) := by decide +kernel
theorem dX7_bestSwap_134 : decode cX7_bestSwap 134 = .ok (.goto (-48), 3) := by decide +kernel
theorem dX7_bestSwap_137 : decode cX7_bestSwap 137 = .ok (.iinc 7 1, 3) := by decide +kernel
theorem dX7_bestSwap_140 : decode cX7_bestSwap 140 = .ok (.goto (-69), 3) := by decide +kernel
theorem dX7_bestSwap_143 : decode cX7_bestSwap 143 = .ok (.iload 5, 2) := by decide +kernel
theorem dX7_bestSwap_145 : decode cX7_bestSwap 145 = .ok (.iconst (-1), 1) := by decide +kernel
theorem dX7_bestSwap_146 : decode cX7_bestSwap 146 = .ok (.if_icmp .ne 5, 3) := by decide +kernel
theorem dX7_bestSwap_149 : decode cX7_bestSwap 149 = .ok (.iconst (-1), 1) := by decide +kernel
theorem dX7_bestSwap_150 : decode cX7_bestSwap 150 = .ok (.ireturn, 1) := by decide +kernel
theorem dX7_bestSwap_151 : decode cX7_bestSwap 151 = .ok (.iload_n 2, 1) := by decide +kernel
theorem dX7_bestSwap_152 : decode cX7_bestSwap 152 = .ok (.ifCond .ne 8, 3) := by decide +kernel
theorem dX7_bestSwap_155 : decode cX7_bestSwap 155 = .ok (.iload 4, 2) := by decide +kernel
theorem dX7_bestSwap_157 : decode cX7_bestSwap 157 = .ok (.goto 15, 3) := by decide +kernel
theorem dX7_bestSwap_160 : decode cX7_bestSwap 160 = .ok (.iload_n 2, 1) := by decide +kernel
theorem dX7_bestSwap_161 : decode cX7_bestSwap 161 = .ok (.iconst 1, 1) := by decide +kernel
theorem dX7_bestSwap_162 : decode cX7_bestSwap 162 = .ok (.if_icmp .ne 8, 3) := by decide +kernel
theorem dX7_bestSwap_165 : decode cX7_bestSwap 165 = .ok (.iload 5, 2) := by decide +kernel
theorem dX7_bestSwap_167 : decode cX7_bestSwap 167 = .ok (.goto 5, 3) := by decide +kernel
theorem dX7_bestSwap_170 : decode cX7_bestSwap 170 = .ok (.iload 6, 2) := by decide +kernel
theorem dX7_bestSwap_172 : decode cX7_bestSwap 172 = .ok (.ireturn, 1) := by decide +kernel
theorem dX7_needs_0 : decode cX7_needs 0 = .ok (.aload_n 0, 1) := by decide +kernel
theorem dX7_needs_1 : decode cX7_needs 1 = .ok (.getfield 10, 3) := by decide +kernel
theorem dX7_needs_4 : decode cX7_needs 4 = .ok (.iload_n 1, 1) := by decide +kernel
theorem dX7_needs_5 : decode cX7_needs 5 = .ok (.iload_n 2, 1) := by decide +kernel
theorem dX7_needs_6 : decode cX7_needs 6 = .ok (.invokevirtual 166, 3) := by decide +kernel
theorem dX7_needs_9 : decode cX7_needs 9 = .ok (.ifCond .ne 13, 3) := by decide +kernel
theorem dX7_needs_12 : decode cX7_needs 12 = .ok (.new 126, 3) := by decide +kernel
theorem dX7_needs_15 : decode cX7_needs 15 = .ok (.dup, 1) := by decide +kernel
theorem dX7_needs_16 : decode cX7_needs 16 = .ok (.ldc 170, 2) := by decide +kernel
theorem dX7_needs_18 : decode cX7_needs 18 = .ok (.invokespecial 130, 3) := by decide +kernel
theorem dX7_needs_21 : decode cX7_needs 21 = .ok (.athrow, 1) := by decide +kernel
theorem dX7_needs_22 : decode cX7_needs 22 = .ok (.aload_n 0, 1) := by decide +kernel
theorem dX7_needs_23 : decode cX7_needs 23 = .ok (.getfield 48, 3) := by decide +kernel
theorem dX7_needs_26 : decode cX7_needs 26 = .ok (.aload_n 0, 1) := by decide +kernel
theorem dX7_needs_27 : decode cX7_needs 27 = .ok (.getfield 10, 3) := by decide +kernel
theorem dX7_needs_30 : decode cX7_needs 30 = .ok (.aload_n 0, 1) := by decide +kernel
theorem dX7_needs_31 : decode cX7_needs 31 = .ok (.getfield 41, 3) := by decide +kernel
theorem dX7_needs_34 : decode cX7_needs 34 = .ok (.invokevirtual 112, 3) := by decide +kernel
theorem dX7_needs_37 : decode cX7_needs 37 = .ok (.aload_n 0, 1) := by decide +kernel
theorem dX7_needs_38 : decode cX7_needs 38 = .ok (.getfield 41, 3) := by decide +kernel
theorem dX7_needs_41 : decode cX7_needs 41 = .ok (.aload_n 0, 1) := by decide +kernel
theorem dX7_needs_42 : decode cX7_needs 42 = .ok (.getfield 10, 3) := by decide +kernel
theorem dX7_needs_45 : decode cX7_needs 45 = .ok (.getfield 133, 3) := by decide +kernel
theorem dX7_needs_48 : decode cX7_needs 48 = .ok (.iload_n 1, 1) := by decide +kernel
theorem dX7_needs_49 : decode cX7_needs 49 = .ok (.aaload, 1) := by decide +kernel
theorem dX7_needs_50 : decode cX7_needs 50 = .ok (.aload_n 0, 1) := by decide +kernel
theorem dX7_needs_51 : decode cX7_needs 51 = .ok (.getfield 10, 3) := by decide +kernel
theorem dX7_needs_54 : decode cX7_needs 54 = .ok (.getfield 137, 3) := by decide +kernel
theorem dX7_needs_57 : decode cX7_needs 57 = .ok (.invokevirtual 141, 3) := by decide +kernel
theorem dX7_needs_60 : decode cX7_needs 60 = .ok (.aload_n 0, 1) := by decide +kernel
theorem dX7_needs_61 : decode cX7_needs 61 = .ok (.getfield 41, 3) := by decide +kernel
theorem dX7_needs_64 : decode cX7_needs 64 = .ok (.getfield 311, 3) := by decide +kernel
theorem dX7_needs_67 : decode cX7_needs 67 = .ok (.iload_n 2, 1) := by decide +kernel
theorem dX7_needs_68 : decode cX7_needs 68 = .ok (.iaload, 1) := by decide +kernel
theorem dX7_needs_69 : decode cX7_needs 69 = .ok (.istore_n 3, 1) := by decide +kernel
theorem dX7_needs_70 : decode cX7_needs 70 = .ok (.aload_n 0, 1) := by decide +kernel
theorem dX7_needs_71 : decode cX7_needs 71 = .ok (.getfield 41, 3) := by decide +kernel
theorem dX7_needs_74 : decode cX7_needs 74 = .ok (.getfield 148, 3) := by decide +kernel
theorem dX7_needs_77 : decode cX7_needs 77 = .ok (.aload_n 0, 1) := by decide +kernel
theorem dX7_needs_78 : decode cX7_needs 78 = .ok (.getfield 41, 3) := by decide +kernel
theorem dX7_needs_81 : decode cX7_needs 81 = .ok (.getfield 186, 3) := by decide +kernel
theorem dX7_needs_84 : decode cX7_needs 84 = .ok (.iload_n 2, 1) := by decide +kernel
theorem dX7_needs_85 : decode cX7_needs 85 = .ok (.iaload, 1) := by decide +kernel
theorem dX7_needs_86 : decode cX7_needs 86 = .ok (.isub, 1) := by decide +kernel
theorem dX7_needs_87 : decode cX7_needs 87 = .ok (.istore 4, 2) := by decide +kernel
theorem dX7_needs_89 : decode cX7_needs 89 = .ok (.aload_n 0, 1) := by decide +kernel
theorem dX7_needs_90 : decode cX7_needs 90 = .ok (.getfield 41, 3) := by decide +kernel
theorem dX7_needs_93 : decode cX7_needs 93 = .ok (.invokevirtual 157, 3) := by decide +kernel
theorem dX7_needs_96 : decode cX7_needs 96 = .ok (.aload_n 0, 1) := by decide +kernel
theorem dX7_needs_97 : decode cX7_needs 97 = .ok (.getfield 41, 3) := by decide +kernel
theorem dX7_needs_100 : decode cX7_needs 100 = .ok (.getfield 186, 3) := by decide +kernel
theorem dX7_needs_103 : decode cX7_needs 103 = .ok (.iload_n 2, 1) := by decide +kernel
theorem dX7_needs_104 : decode cX7_needs 104 = .ok (.iaload, 1) := by decide +kernel
theorem dX7_needs_105 : decode cX7_needs 105 = .ok (.isub, 1) := by decide +kernel
theorem dX7_needs_106 : decode cX7_needs 106 = .ok (.istore 5, 2) := by decide +kernel
theorem dX7_needs_108 : decode cX7_needs 108 = .ok (.bipush (-15), 2) := by decide +kernel
theorem dX7_needs_110 : decode cX7_needs 110 = .ok (.istore 6, 2) := by decide +kernel
theorem dX7_needs_112 : decode cX7_needs 112 = .ok (.iload 6, 2) := by decide +kernel
theorem dX7_needs_114 : decode cX7_needs 114 = .ok (.bipush 15, 2) := by decide +kernel
theorem dX7_needs_116 : decode cX7_needs 116 = .ok (.if_icmp .gt 62, 3) := by decide +kernel
theorem dX7_needs_119 : decode cX7_needs 119 = .ok (.iload 6, 2) := by decide +kernel
theorem dX7_needs_121 : decode cX7_needs 121 = .ok (.iload_n 3, 1) := by decide +kernel
theorem dX7_needs_122 : decode cX7_needs 122 = .ok (.invokestatic 314, 3) := by decide +kernel
theorem dX7_needs_125 : decode cX7_needs 125 = .ok (.istore 7, 2) := by decide +kernel
theorem dX7_needs_127 : decode cX7_needs 127 = .ok (.aload_n 0, 1) := by decide +kernel
theorem dX7_needs_128 : decode cX7_needs 128 = .ok (.getfield 48, 3) := by decide +kernel
theorem dX7_needs_131 : decode cX7_needs 131 = .ok (.getfield 318, 3) := by decide +kernel
theorem dX7_needs_134 : decode cX7_needs 134 = .ok (.iload_n 1, 1) := by decide +kernel
theorem dX7_needs_135 : decode cX7_needs 135 = .ok (.iload 5, 2) := by decide +kernel
theorem dX7_needs_137 : decode cX7_needs 137 = .ok (.iload 7, 2) := by decide +kernel
theorem dX7_needs_139 : decode cX7_needs 139 = .ok (.iadd, 1) := by decide +kernel
theorem dX7_needs_140 : decode cX7_needs 140 = .ok (.iastore, 1) := by decide +kernel
theorem dX7_needs_141 : decode cX7_needs 141 = .ok (.aload_n 0, 1) := by decide +kernel
theorem dX7_needs_142 : decode cX7_needs 142 = .ok (.getfield 48, 3) := by decide +kernel
theorem dX7_needs_145 : decode cX7_needs 145 = .ok (.getfield 321, 3) := by decide +kernel
theorem dX7_needs_148 : decode cX7_needs 148 = .ok (.iload_n 1, 1) := by decide +kernel
theorem dX7_needs_149 : decode cX7_needs 149 = .ok (.iload 4, 2) := by decide +kernel
theorem dX7_needs_151 : decode cX7_needs 151 = .ok (.iload 7, 2) := by decide +kernel
theorem dX7_needs_153 : decode cX7_needs 153 = .ok (.iadd, 1) := by decide +kernel
theorem dX7_needs_154 : decode cX7_needs 154 = .ok (.iastore, 1) := by decide +kernel
theorem dX7_needs_155 : decode cX7_needs 155 = .ok (.aload_n 0, 1) := by decide +kernel
theorem dX7_needs_156 : decode cX7_needs 156 = .ok (.getfield 48, 3) := by decide +kernel
theorem dX7_needs_159 : decode cX7_needs 159 = .ok (.iload_n 1, 1) := by decide +kernel
theorem dX7_needs_160 : decode cX7_needs 160 = .ok (.invokevirtual 160, 3) := by decide +kernel
theorem dX7_needs_163 : decode cX7_needs 163 = .ok (.ifCond .ne 9, 3) := by decide +kernel
theorem dX7_needs_166 : decode cX7_needs 166 = .ok (.bipush 100, 2) := by decide +kernel
theorem dX7_needs_168 : decode cX7_needs 168 = .ok (.iload 6, 2) := by decide +kernel
theorem dX7_needs_170 : decode cX7_needs 170 = .ok (.iadd, 1) := by decide +kernel
theorem dX7_needs_171 : decode cX7_needs 171 = .ok (.ireturn, 1) := by decide +kernel
theorem dX7_needs_172 : decode cX7_needs 172 = .ok (.iinc 6 1, 3) := by decide +kernel
theorem dX7_needs_175 : decode cX7_needs 175 = .ok (.goto (-63), 3) := by decide +kernel
theorem dX7_needs_178 : decode cX7_needs 178 = .ok (.iconst (-1), 1) := by decide +kernel
theorem dX7_needs_179 : decode cX7_needs 179 = .ok (.ireturn, 1) := by decide +kernel
theorem dX7_behind_0 : decode cX7_behind 0 = .ok (.aload_n 0, 1) := by decide +kernel
theorem dX7_behind_1 : decode cX7_behind 1 = .ok (.getfield 10, 3) := by decide +kernel
theorem dX7_behind_4 : decode cX7_behind 4 = .ok (.iload_n 1, 1) := by decide +kernel
theorem dX7_behind_5 : decode cX7_behind 5 = .ok (.invokevirtual 122, 3) := by decide +kernel
theorem dX7_behind_8 : decode cX7_behind 8 = .ok (.ifCond .ne 13, 3) := by decide +kernel
theorem dX7_behind_11 : decode cX7_behind 11 = .ok (.new 126, 3) := by decide +kernel
theorem dX7_behind_14 : decode cX7_behind 14 = .ok (.dup, 1) := by decide +kernel
theorem dX7_behind_15 : decode cX7_behind 15 = .ok (.ldc 128, 2) := by decide +kernel
theorem dX7_behind_17 : decode cX7_behind 17 = .ok (.invokespecial 130, 3) := by decide +kernel
theorem dX7_behind_20 : decode cX7_behind 20 = .ok (.athrow, 1) := by decide +kernel
theorem dX7_behind_21 : decode cX7_behind 21 = .ok (.aload_n 0, 1) := by decide +kernel
theorem dX7_behind_22 : decode cX7_behind 22 = .ok (.getfield 48, 3) := by decide +kernel
theorem dX7_behind_25 : decode cX7_behind 25 = .ok (.aload_n 0, 1) := by decide +kernel
theorem dX7_behind_26 : decode cX7_behind 26 = .ok (.getfield 10, 3) := by decide +kernel
theorem dX7_behind_29 : decode cX7_behind 29 = .ok (.aload_n 0, 1) := by decide +kernel
theorem dX7_behind_30 : decode cX7_behind 30 = .ok (.getfield 41, 3) := by decide +kernel
theorem dX7_behind_33 : decode cX7_behind 33 = .ok (.invokevirtual 112, 3) := by decide +kernel
theorem dX7_behind_36 : decode cX7_behind 36 = .ok (.aload_n 0, 1) := by decide +kernel
theorem dX7_behind_37 : decode cX7_behind 37 = .ok (.getfield 48, 3) := by decide +kernel
theorem dX7_behind_40 : decode cX7_behind 40 = .ok (.invokevirtual 116, 3) := by decide +kernel
theorem dX7_behind_43 : decode cX7_behind 43 = .ok (.istore_n 2, 1) := by decide +kernel
theorem dX7_behind_44 : decode cX7_behind 44 = .ok (.iload_n 2, 1) := by decide +kernel
theorem dX7_behind_45 : decode cX7_behind 45 = .ok (.iconst (-1), 1) := by decide +kernel
theorem dX7_behind_46 : decode cX7_behind 46 = .ok (.if_icmp .ne 7, 3) := by decide +kernel
theorem dX7_behind_49 : decode cX7_behind 49 = .ok (.iconst 0, 1) := by decide +kernel
theorem dX7_behind_50 : decode cX7_behind 50 = .ok (.goto 22, 3) := by decide +kernel
theorem dX7_behind_53 : decode cX7_behind 53 = .ok (.aload_n 0, 1) := by decide +kernel
theorem dX7_behind_54 : decode cX7_behind 54 = .ok (.getfield 48, 3) := by decide +kernel
theorem dX7_behind_57 : decode cX7_behind 57 = .ok (.getfield 318, 3) := by decide +kernel
theorem dX7_behind_60 : decode cX7_behind 60 = .ok (.iload_n 2, 1) := by decide +kernel
theorem dX7_behind_61 : decode cX7_behind 61 = .ok (.iaload, 1) := by decide +kernel
theorem dX7_behind_62 : decode cX7_behind 62 = .ok (.aload_n 0, 1) := by decide +kernel
theorem dX7_behind_63 : decode cX7_behind 63 = .ok (.getfield 48, 3) := by decide +kernel
theorem dX7_behind_66 : decode cX7_behind 66 = .ok (.getfield 318, 3) := by decide +kernel
theorem dX7_behind_69 : decode cX7_behind 69 = .ok (.iload_n 1, 1) := by decide +kernel
theorem dX7_behind_70 : decode cX7_behind 70 = .ok (.iaload, 1) := by decide +kernel
theorem dX7_behind_71 : decode cX7_behind 71 = .ok (.isub, 1) := by decide +kernel
theorem dX7_behind_72 : decode cX7_behind 72 = .ok (.ireturn, 1) := by decide +kernel
theorem dX7_runScript_0 : decode cX7_runScript 0 = .ok (.iload_n 1, 1) := by decide +kernel
theorem dX7_runScript_1 : decode cX7_runScript 1 = .ok (.iconst 1, 1) := by decide +kernel
theorem dX7_runScript_2 : decode cX7_runScript 2 = .ok (.if_icmp .lt 8, 3) := by decide +kernel
theorem dX7_runScript_5 : decode cX7_runScript 5 = .ok (.iload_n 1, 1) := by decide +kernel
theorem dX7_runScript_6 : decode cX7_runScript 6 = .ok (.iconst 3, 1) := by decide +kernel
theorem dX7_runScript_7 : decode cX7_runScript 7 = .ok (.if_icmp .le 14, 3) := by decide +kernel
theorem dX7_runScript_10 : decode cX7_runScript 10 = .ok (.new 69, 3) := by decide +kernel
theorem dX7_runScript_13 : decode cX7_runScript 13 = .ok (.dup, 1) := by decide +kernel
theorem dX7_runScript_14 : decode cX7_runScript 14 = .ok (.ldc_w 324, 3) := by decide +kernel
theorem dX7_runScript_17 : decode cX7_runScript 17 = .ok (.invokespecial 73, 3) := by decide +kernel
theorem dX7_runScript_20 : decode cX7_runScript 20 = .ok (.athrow, 1) := by decide +kernel
theorem dX7_runScript_21 : decode cX7_runScript 21 = .ok (.lload_n 2, 1) := by decide +kernel
theorem dX7_runScript_22 : decode cX7_runScript 22 = .ok (.lconst 0, 1) := by decide +kernel
theorem dX7_runScript_23 : decode cX7_runScript 23 = .ok (.lcmp, 1) := by decide +kernel
theorem dX7_runScript_24 : decode cX7_runScript 24 = .ok (.ifCond .lt 13, 3) := by decide +kernel
theorem dX7_runScript_27 : decode cX7_runScript 27 = .ok (.iload_n 1, 1) := by decide +kernel
theorem dX7_runScript_28 : decode cX7_runScript 28 = .ok (.lload_n 2, 1) := by decide +kernel
theorem dX7_runScript_29 : decode cX7_runScript 29 = .ok (.invokestatic 326, 3) := by decide +kernel
theorem dX7_runScript_32 : decode cX7_runScript 32 = .ok (.lconst 0, 1) := by decide +kernel
theorem dX7_runScript_33 : decode cX7_runScript 33 = .ok (.lcmp, 1) := by decide +kernel
theorem dX7_runScript_34 : decode cX7_runScript 34 = .ok (.ifCond .eq 14, 3) := by decide +kernel
theorem dX7_runScript_37 : decode cX7_runScript 37 = .ok (.new 69, 3) := by decide +kernel
theorem dX7_runScript_40 : decode cX7_runScript 40 = .ok (.dup, 1) := by decide +kernel
theorem dX7_runScript_41 : decode cX7_runScript 41 = .ok (.ldc_w 330, 3) := by decide +kernel
theorem dX7_runScript_44 : decode cX7_runScript 44 = .ok (.invokespecial 73, 3) := by decide +kernel
theorem dX7_runScript_47 : decode cX7_runScript 47 = .ok (.athrow, 1) := by decide +kernel
theorem dX7_runScript_48 : decode cX7_runScript 48 = .ok (.aload_n 0, 1) := by decide +kernel
theorem dX7_runScript_49 : decode cX7_runScript 49 = .ok (.getfield 59, 3) := by decide +kernel
theorem dX7_runScript_52 : decode cX7_runScript 52 = .ok (.aload_n 0, 1) := by decide +kernel
theorem dX7_runScript_53 : decode cX7_runScript 53 = .ok (.getfield 10, 3) := by decide +kernel
theorem dX7_runScript_56 : decode cX7_runScript 56 = .ok (.invokevirtual 332, 3) := by decide +kernel
theorem dX7_runScript_59 : decode cX7_runScript 59 = .ok (.iconst 0, 1) := by decide +kernel
theorem dX7_runScript_60 : decode cX7_runScript 60 = .ok (.istore 4, 2) := by decide +kernel
theorem dX7_runScript_62 : decode cX7_runScript 62 = .ok (.iload 4, 2) := by decide +kernel
theorem dX7_runScript_64 : decode cX7_runScript 64 = .ok (.iload_n 1, 1) := by decide +kernel
theorem dX7_runScript_65 : decode cX7_runScript 65 = .ok (.if_icmp .ge 63, 3) := by decide +kernel
theorem dX7_runScript_68 : decode cX7_runScript 68 = .ok (.aload_n 0, 1) := by decide +kernel
theorem dX7_runScript_69 : decode cX7_runScript 69 = .ok (.getfield 55, 3) := by decide +kernel
theorem dX7_runScript_72 : decode cX7_runScript 72 = .ok (.iload_n 1, 1) := by decide +kernel
theorem dX7_runScript_73 : decode cX7_runScript 73 = .ok (.iconst 1, 1) := by decide +kernel
theorem dX7_runScript_74 : decode cX7_runScript 74 = .ok (.isub, 1) := by decide +kernel
theorem dX7_runScript_75 : decode cX7_runScript 75 = .ok (.iload 4, 2) := by decide +kernel
theorem dX7_runScript_77 : decode cX7_runScript 77 = .ok (.isub, 1) := by decide +kernel
theorem dX7_runScript_78 : decode cX7_runScript 78 = .ok (.lload_n 2, 1) := by decide +kernel
theorem dX7_runScript_79 : decode cX7_runScript 79 = .ok (.invokestatic 326, 3) := by decide +kernel
theorem dX7_runScript_82 : decode cX7_runScript 82 = .ok (.ldc2_w 334, 3) := by decide +kernel
theorem dX7_runScript_85 : decode cX7_runScript 85 = .ok (.lrem, 1) := by decide +kernel
theorem dX7_runScript_86 : decode cX7_runScript 86 = .ok (.l2i, 1) := by decide +kernel
theorem dX7_runScript_87 : decode cX7_runScript 87 = .ok (.invokevirtual 336, 3) := by decide +kernel
theorem dX7_runScript_90 : decode cX7_runScript 90 = .ok (.aload_n 0, 1) := by decide +kernel
theorem dX7_runScript_91 : decode cX7_runScript 91 = .ok (.getfield 55, 3) := by decide +kernel
theorem dX7_runScript_94 : decode cX7_runScript 94 = .ok (.getfield 339, 3) := by decide +kernel
theorem dX7_runScript_97 : decode cX7_runScript 97 = .ok (.iconst 5, 1) := by decide +kernel
theorem dX7_runScript_98 : decode cX7_runScript 98 = .ok (.if_icmp .gt 10, 3) := by decide +kernel
theorem dX7_runScript_101 : decode cX7_runScript 101 = .ok (.aload_n 0, 1) := by decide +kernel
theorem dX7_runScript_102 : decode cX7_runScript 102 = .ok (.invokevirtual 342, 3) := by decide +kernel
theorem dX7_runScript_105 : decode cX7_runScript 105 = .ok (.goto 7, 3) := by decide +kernel
theorem dX7_runScript_108 : decode cX7_runScript 108 = .ok (.aload_n 0, 1) := by decide +kernel
theorem dX7_runScript_109 : decode cX7_runScript 109 = .ok (.invokevirtual 345, 3) := by decide +kernel
theorem dX7_runScript_112 : decode cX7_runScript 112 = .ok (.istore 5, 2) := by decide +kernel
theorem dX7_runScript_114 : decode cX7_runScript 114 = .ok (.iload 5, 2) := by decide +kernel
theorem dX7_runScript_116 : decode cX7_runScript 116 = .ok (.ifCond .ne 6, 3) := by decide +kernel
theorem dX7_runScript_119 : decode cX7_runScript 119 = .ok (.iload 4, 2) := by decide +kernel
theorem dX7_runScript_121 : decode cX7_runScript 121 = .ok (.ireturn, 1) := by decide +kernel
theorem dX7_runScript_122 : decode cX7_runScript 122 = .ok (.iinc 4 1, 3) := by decide +kernel
theorem dX7_runScript_125 : decode cX7_runScript 125 = .ok (.goto (-63), 3) := by decide +kernel
theorem dX7_runScript_128 : decode cX7_runScript 128 = .ok (.iconst (-1), 1) := by decide +kernel
theorem dX7_runScript_129 : decode cX7_runScript 129 = .ok (.ireturn, 1) := by decide +kernel
theorem dX7_simulate_0 : decode cX7_simulate 0 = .ok (.iload_n 3, 1) := by decide +kernel
theorem dX7_simulate_1 : decode cX7_simulate 1 = .ok (.iconst 1, 1) := by decide +kernel
theorem dX7_simulate_2 : decode cX7_simulate 2 = .ok (.if_icmp .lt 9, 3) := by decide +kernel
theorem dX7_simulate_5 : decode cX7_simulate 5 = .ok (.iload_n 3, 1) := by decide +kernel
theorem dX7_simulate_6 : decode cX7_simulate 6 = .ok (.bipush 60, 2) := by decide +kernel
theorem dX7_simulate_8 : decode cX7_simulate 8 = .ok (.if_icmp .le 14, 3) := by decide +kernel
theorem dX7_simulate_11 : decode cX7_simulate 11 = .ok (.new 69, 3) := by decide +kernel
theorem dX7_simulate_14 : decode cX7_simulate 14 = .ok (.dup, 1) := by decide +kernel
theorem dX7_simulate_15 : decode cX7_simulate 15 = .ok (.ldc_w 348, 3) := by decide +kernel
theorem dX7_simulate_18 : decode cX7_simulate 18 = .ok (.invokespecial 73, 3) := by decide +kernel
theorem dX7_simulate_21 : decode cX7_simulate 21 = .ok (.athrow, 1) := by decide +kernel
theorem dX7_simulate_22 : decode cX7_simulate 22 = .ok (.aload_n 0, 1) := by decide +kernel
theorem dX7_simulate_23 : decode cX7_simulate 23 = .ok (.getfield 59, 3) := by decide +kernel
theorem dX7_simulate_26 : decode cX7_simulate 26 = .ok (.aload_n 0, 1) := by decide +kernel
theorem dX7_simulate_27 : decode cX7_simulate 27 = .ok (.getfield 10, 3) := by decide +kernel
theorem dX7_simulate_30 : decode cX7_simulate 30 = .ok (.invokevirtual 332, 3) := by decide +kernel
theorem dX7_simulate_33 : decode cX7_simulate 33 = .ok (.lload_n 1, 1) := by decide +kernel
theorem dX7_simulate_34 : decode cX7_simulate 34 = .ok (.lstore 4, 2) := by decide +kernel
theorem dX7_simulate_36 : decode cX7_simulate 36 = .ok (.iconst 0, 1) := by decide +kernel
theorem dX7_simulate_37 : decode cX7_simulate 37 = .ok (.istore 6, 2) := by decide +kernel
theorem dX7_simulate_39 : decode cX7_simulate 39 = .ok (.iload 6, 2) := by decide +kernel
theorem dX7_simulate_41 : decode cX7_simulate 41 = .ok (.iload_n 3, 1) := by decide +kernel
theorem dX7_simulate_42 : decode cX7_simulate 42 = .ok (.if_icmp .ge 31, 3) := by decide +kernel
theorem dX7_simulate_45 : decode cX7_simulate 45 = .ok (.lload 4, 2) := by decide +kernel
theorem dX7_simulate_47 : decode cX7_simulate 47 = .ok (.ldc2_w 350, 3) := by decide +kernel
theorem dX7_simulate_50 : decode cX7_simulate 50 = .ok (.lmul, 1) := by decide +kernel
theorem dX7_simulate_51 : decode cX7_simulate 51 = .ok (.ldc2_w 352, 3) := by decide +kernel
theorem dX7_simulate_54 : decode cX7_simulate 54 = .ok (.ladd, 1) := by decide +kernel
theorem dX7_simulate_55 : decode cX7_simulate 55 = .ok (.lstore 4, 2) := by decide +kernel
theorem dX7_simulate_57 : decode cX7_simulate 57 = .ok (.aload_n 0, 1) := by decide +kernel
theorem dX7_simulate_58 : decode cX7_simulate 58 = .ok (.lload 4, 2) := by decide +kernel
theorem dX7_simulate_60 : decode cX7_simulate 60 = .ok (.bipush 33, 2) := by decide +kernel
theorem dX7_simulate_62 : decode cX7_simulate 62 = .ok (.lushr, 1) := by decide +kernel
theorem dX7_simulate_63 : decode cX7_simulate 63 = .ok (.l2i, 1) := by decide +kernel
theorem dX7_simulate_64 : decode cX7_simulate 64 = .ok (.invokevirtual 354, 3) := by decide +kernel
theorem dX7_simulate_67 : decode cX7_simulate 67 = .ok (.iinc 6 1, 3) := by decide +kernel
theorem dX7_simulate_70 : decode cX7_simulate 70 = .ok (.goto (-31), 3) := by decide +kernel
theorem dX7_simulate_73 : decode cX7_simulate 73 = .ok (.aload_n 0, 1) := by decide +kernel
theorem dX7_simulate_74 : decode cX7_simulate 74 = .ok (.getfield 48, 3) := by decide +kernel
theorem dX7_simulate_77 : decode cX7_simulate 77 = .ok (.aload_n 0, 1) := by decide +kernel
theorem dX7_simulate_78 : decode cX7_simulate 78 = .ok (.getfield 59, 3) := by decide +kernel
theorem dX7_simulate_81 : decode cX7_simulate 81 = .ok (.aload_n 0, 1) := by decide +kernel
theorem dX7_simulate_82 : decode cX7_simulate 82 = .ok (.getfield 41, 3) := by decide +kernel
theorem dX7_simulate_85 : decode cX7_simulate 85 = .ok (.invokevirtual 112, 3) := by decide +kernel
theorem dX7_simulate_88 : decode cX7_simulate 88 = .ok (.iconst 0, 1) := by decide +kernel
theorem dX7_simulate_89 : decode cX7_simulate 89 = .ok (.istore 6, 2) := by decide +kernel
theorem dX7_simulate_91 : decode cX7_simulate 91 = .ok (.iconst 0, 1) := by decide +kernel
theorem dX7_simulate_92 : decode cX7_simulate 92 = .ok (.istore 7, 2) := by decide +kernel
theorem dX7_simulate_94 : decode cX7_simulate 94 = .ok (.iload 7, 2) := by decide +kernel
theorem dX7_simulate_96 : decode cX7_simulate 96 = .ok (.aload_n 0, 1) := by decide +kernel
theorem dX7_simulate_97 : decode cX7_simulate 97 = .ok (.getfield 59, 3) := by decide +kernel
theorem dX7_simulate_100 : decode cX7_simulate 100 = .ok (.getfield 99, 3) := by decide +kernel
theorem dX7_simulate_103 : decode cX7_simulate 103 = .ok (.if_icmp .ge 24, 3) := by decide +kernel
theorem dX7_simulate_106 : decode cX7_simulate 106 = .ok (.iload 6, 2) := by decide +kernel
theorem dX7_simulate_108 : decode cX7_simulate 108 = .ok (.aload_n 0, 1) := by decide +kernel
theorem dX7_simulate_109 : decode cX7_simulate 109 = .ok (.getfield 48, 3) := by decide +kernel
theorem dX7_simulate_112 : decode cX7_simulate 112 = .ok (.getfield 318, 3) := by decide +kernel
theorem dX7_simulate_115 : decode cX7_simulate 115 = .ok (.iload 7, 2) := by decide +kernel
theorem dX7_simulate_117 : decode cX7_simulate 117 = .ok (.iaload, 1) := by decide +kernel
theorem dX7_simulate_118 : decode cX7_simulate 118 = .ok (.iadd, 1) := by decide +kernel
theorem dX7_simulate_119 : decode cX7_simulate 119 = .ok (.istore 6, 2) := by decide +kernel
theorem dX7_simulate_121 : decode cX7_simulate 121 = .ok (.iinc 7 1, 3) := by decide +kernel
theorem dX7_simulate_124 : decode cX7_simulate 124 = .ok (.goto (-30), 3) := by decide +kernel
theorem dX7_simulate_127 : decode cX7_simulate 127 = .ok (.iload 6, 2) := by decide +kernel
theorem dX7_simulate_129 : decode cX7_simulate 129 = .ok (.ireturn, 1) := by decide +kernel
theorem dX7_save_0 : decode cX7_save 0 = .ok (.iload_n 1, 1) := by decide +kernel
theorem dX7_save_1 : decode cX7_save 1 = .ok (.ifCond .lt 8, 3) := by decide +kernel
theorem dX7_save_4 : decode cX7_save 4 = .ok (.iload_n 1, 1) := by decide +kernel
theorem dX7_save_5 : decode cX7_save 5 = .ok (.iconst 2, 1) := by decide +kernel
theorem dX7_save_6 : decode cX7_save 6 = .ok (.if_icmp .lt 14, 3) := by decide +kernel
theorem dX7_save_9 : decode cX7_save 9 = .ok (.new 126, 3) := by decide +kernel
theorem dX7_save_12 : decode cX7_save 12 = .ok (.dup, 1) := by decide +kernel
theorem dX7_save_13 : decode cX7_save 13 = .ok (.ldc_w 357, 3) := by decide +kernel
theorem dX7_save_16 : decode cX7_save 16 = .ok (.invokespecial 130, 3) := by decide +kernel
theorem dX7_save_19 : decode cX7_save 19 = .ok (.athrow, 1) := by decide +kernel
theorem dX7_save_20 : decode cX7_save 20 = .ok (.aload_n 0, 1) := by decide +kernel
theorem dX7_save_21 : decode cX7_save 21 = .ok (.getfield 23, 3) := by decide +kernel
theorem dX7_save_24 : decode cX7_save 24 = .ok (.iload_n 1, 1) := by decide +kernel
theorem dX7_save_25 : decode cX7_save 25 = .ok (.aaload, 1) := by decide +kernel
theorem dX7_save_26 : decode cX7_save 26 = .ok (.aload_n 0, 1) := by decide +kernel
theorem dX7_save_27 : decode cX7_save 27 = .ok (.getfield 10, 3) := by decide +kernel
theorem dX7_save_30 : decode cX7_save 30 = .ok (.invokevirtual 332, 3) := by decide +kernel
theorem dX7_save_33 : decode cX7_save 33 = .ok (.aload_n 0, 1) := by decide +kernel
theorem dX7_save_34 : decode cX7_save 34 = .ok (.getfield 27, 3) := by decide +kernel
theorem dX7_save_37 : decode cX7_save 37 = .ok (.iload_n 1, 1) := by decide +kernel
theorem dX7_save_38 : decode cX7_save 38 = .ok (.iconst 1, 1) := by decide +kernel
theorem dX7_save_39 : decode cX7_save 39 = .ok (.bastore, 1) := by decide +kernel
theorem dX7_save_40 : decode cX7_save 40 = .ok (.aload_n 0, 1) := by decide +kernel
theorem dX7_save_41 : decode cX7_save 41 = .ok (.getfield 10, 3) := by decide +kernel
theorem dX7_save_44 : decode cX7_save 44 = .ok (.getfield 99, 3) := by decide +kernel
theorem dX7_save_47 : decode cX7_save 47 = .ok (.ireturn, 1) := by decide +kernel
theorem dX7_restore_0 : decode cX7_restore 0 = .ok (.iload_n 1, 1) := by decide +kernel
theorem dX7_restore_1 : decode cX7_restore 1 = .ok (.ifCond .lt 8, 3) := by decide +kernel
theorem dX7_restore_4 : decode cX7_restore 4 = .ok (.iload_n 1, 1) := by decide +kernel
theorem dX7_restore_5 : decode cX7_restore 5 = .ok (.iconst 2, 1) := by decide +kernel
theorem dX7_restore_6 : decode cX7_restore 6 = .ok (.if_icmp .lt 14, 3) := by decide +kernel
theorem dX7_restore_9 : decode cX7_restore 9 = .ok (.new 126, 3) := by decide +kernel
theorem dX7_restore_12 : decode cX7_restore 12 = .ok (.dup, 1) := by decide +kernel
theorem dX7_restore_13 : decode cX7_restore 13 = .ok (.ldc_w 357, 3) := by decide +kernel
theorem dX7_restore_16 : decode cX7_restore 16 = .ok (.invokespecial 130, 3) := by decide +kernel
theorem dX7_restore_19 : decode cX7_restore 19 = .ok (.athrow, 1) := by decide +kernel
theorem dX7_restore_20 : decode cX7_restore 20 = .ok (.aload_n 0, 1) := by decide +kernel
theorem dX7_restore_21 : decode cX7_restore 21 = .ok (.getfield 27, 3) := by decide +kernel
theorem dX7_restore_24 : decode cX7_restore 24 = .ok (.iload_n 1, 1) := by decide +kernel
theorem dX7_restore_25 : decode cX7_restore 25 = .ok (.baload, 1) := by decide +kernel
theorem dX7_restore_26 : decode cX7_restore 26 = .ok (.ifCond .ne 14, 3) := by decide +kernel
theorem dX7_restore_29 : decode cX7_restore 29 = .ok (.new 80, 3) := by decide +kernel
theorem dX7_restore_32 : decode cX7_restore 32 = .ok (.dup, 1) := by decide +kernel
theorem dX7_restore_33 : decode cX7_restore 33 = .ok (.ldc_w 359, 3) := by decide +kernel
theorem dX7_restore_36 : decode cX7_restore 36 = .ok (.invokespecial 84, 3) := by decide +kernel
theorem dX7_restore_39 : decode cX7_restore 39 = .ok (.athrow, 1) := by decide +kernel
theorem dX7_restore_40 : decode cX7_restore 40 = .ok (.aload_n 0, 1) := by decide +kernel
theorem dX7_restore_41 : decode cX7_restore 41 = .ok (.getfield 10, 3) := by decide +kernel
theorem dX7_restore_44 : decode cX7_restore 44 = .ok (.aload_n 0, 1) := by decide +kernel
theorem dX7_restore_45 : decode cX7_restore 45 = .ok (.getfield 23, 3) := by decide +kernel
theorem dX7_restore_48 : decode cX7_restore 48 = .ok (.iload_n 1, 1) := by decide +kernel
theorem dX7_restore_49 : decode cX7_restore 49 = .ok (.aaload, 1) := by decide +kernel
theorem dX7_restore_50 : decode cX7_restore 50 = .ok (.invokevirtual 332, 3) := by decide +kernel
theorem dX7_restore_53 : decode cX7_restore 53 = .ok (.aload_n 0, 1) := by decide +kernel
theorem dX7_restore_54 : decode cX7_restore 54 = .ok (.getfield 19, 3) := by decide +kernel
theorem dX7_restore_57 : decode cX7_restore 57 = .ok (.invokevirtual 361, 3) := by decide +kernel
theorem dX7_restore_60 : decode cX7_restore 60 = .ok (.aload_n 0, 1) := by decide +kernel
theorem dX7_restore_61 : decode cX7_restore 61 = .ok (.getfield 10, 3) := by decide +kernel
theorem dX7_restore_64 : decode cX7_restore 64 = .ok (.getfield 99, 3) := by decide +kernel
theorem dX7_restore_67 : decode cX7_restore 67 = .ok (.ireturn, 1) := by decide +kernel
theorem dX7_checkCall_0 : decode cX7_checkCall 0 = .ok (.aload_n 0, 1) := by decide +kernel
theorem dX7_checkCall_1 : decode cX7_checkCall 1 = .ok (.getfield 10, 3) := by decide +kernel
theorem dX7_checkCall_4 : decode cX7_checkCall 4 = .ok (.iload_n 1, 1) := by decide +kernel
theorem dX7_checkCall_5 : decode cX7_checkCall 5 = .ok (.iload_n 2, 1) := by decide +kernel
theorem dX7_checkCall_6 : decode cX7_checkCall 6 = .ok (.iload_n 3, 1) := by decide +kernel
theorem dX7_checkCall_7 : decode cX7_checkCall 7 = .ok (.invokevirtual 198, 3) := by decide +kernel
theorem dX7_checkCall_10 : decode cX7_checkCall 10 = .ok (.ifCond .ne 13, 3) := by decide +kernel
theorem dX7_checkCall_13 : decode cX7_checkCall 13 = .ok (.new 126, 3) := by decide +kernel
theorem dX7_checkCall_16 : decode cX7_checkCall 16 = .ok (.dup, 1) := by decide +kernel
theorem dX7_checkCall_17 : decode cX7_checkCall 17 = .ok (.ldc 202, 2) := by decide +kernel
theorem dX7_checkCall_19 : decode cX7_checkCall 19 = .ok (.invokespecial 130, 3) := by decide +kernel
theorem dX7_checkCall_22 : decode cX7_checkCall 22 = .ok (.athrow, 1) := by decide +kernel
theorem dX7_checkCall_23 : decode cX7_checkCall 23 = .ok (.iload 4, 2) := by decide +kernel
theorem dX7_checkCall_25 : decode cX7_checkCall 25 = .ok (.ifCond .lt 9, 3) := by decide +kernel
theorem dX7_checkCall_28 : decode cX7_checkCall 28 = .ok (.iload 4, 2) := by decide +kernel
theorem dX7_checkCall_30 : decode cX7_checkCall 30 = .ok (.iconst 3, 1) := by decide +kernel
theorem dX7_checkCall_31 : decode cX7_checkCall 31 = .ok (.if_icmp .le 14, 3) := by decide +kernel
theorem dX7_checkCall_34 : decode cX7_checkCall 34 = .ok (.new 69, 3) := by decide +kernel
theorem dX7_checkCall_37 : decode cX7_checkCall 37 = .ok (.dup, 1) := by decide +kernel
theorem dX7_checkCall_38 : decode cX7_checkCall 38 = .ok (.ldc_w 364, 3) := by decide +kernel
theorem dX7_checkCall_41 : decode cX7_checkCall 41 = .ok (.invokespecial 73, 3) := by decide +kernel
theorem dX7_checkCall_44 : decode cX7_checkCall 44 = .ok (.athrow, 1) := by decide +kernel
theorem dX7_checkCall_45 : decode cX7_checkCall 45 = .ok (.aload_n 0, 1) := by decide +kernel
theorem dX7_checkCall_46 : decode cX7_checkCall 46 = .ok (.getfield 10, 3) := by decide +kernel
theorem dX7_checkCall_49 : decode cX7_checkCall 49 = .ok (.getfield 133, 3) := by decide +kernel
theorem dX7_checkCall_52 : decode cX7_checkCall 52 = .ok (.iload_n 1, 1) := by decide +kernel
theorem dX7_checkCall_53 : decode cX7_checkCall 53 = .ok (.aaload, 1) := by decide +kernel
theorem dX7_checkCall_54 : decode cX7_checkCall 54 = .ok (.iload_n 2, 1) := by decide +kernel
theorem dX7_checkCall_55 : decode cX7_checkCall 55 = .ok (.iload_n 3, 1) := by decide +kernel
theorem dX7_checkCall_56 : decode cX7_checkCall 56 = .ok (.iload 4, 2) := by decide +kernel
theorem dX7_checkCall_58 : decode cX7_checkCall 58 = .ok (.invokevirtual 366, 3) := by decide +kernel
theorem dX7_checkCall_61 : decode cX7_checkCall 61 = .ok (.ifCond .ne 14, 3) := by decide +kernel
theorem dX7_checkCall_64 : decode cX7_checkCall 64 = .ok (.new 80, 3) := by decide +kernel
theorem dX7_checkCall_67 : decode cX7_checkCall 67 = .ok (.dup, 1) := by decide +kernel
theorem dX7_checkCall_68 : decode cX7_checkCall 68 = .ok (.ldc_w 369, 3) := by decide +kernel
theorem dX7_checkCall_71 : decode cX7_checkCall 71 = .ok (.invokespecial 84, 3) := by decide +kernel
theorem dX7_checkCall_74 : decode cX7_checkCall 74 = .ok (.athrow, 1) := by decide +kernel
theorem dX7_checkCall_75 : decode cX7_checkCall 75 = .ok (.return_, 1) := by decide +kernel
theorem dX7_lesserParts_0 : decode cX7_lesserParts 0 = .ok (.iconst 0, 1) := by decide +kernel
theorem dX7_lesserParts_1 : decode cX7_lesserParts 1 = .ok (.istore_n 1, 1) := by decide +kernel
theorem dX7_lesserParts_2 : decode cX7_lesserParts 2 = .ok (.iconst 0, 1) := by decide +kernel
theorem dX7_lesserParts_3 : decode cX7_lesserParts 3 = .ok (.istore_n 2, 1) := by decide +kernel
theorem dX7_lesserParts_4 : decode cX7_lesserParts 4 = .ok (.iload_n 2, 1) := by decide +kernel
theorem dX7_lesserParts_5 : decode cX7_lesserParts 5 = .ok (.aload_n 0, 1) := by decide +kernel
theorem dX7_lesserParts_6 : decode cX7_lesserParts 6 = .ok (.getfield 10, 3) := by decide +kernel
theorem dX7_lesserParts_9 : decode cX7_lesserParts 9 = .ok (.getfield 99, 3) := by decide +kernel
theorem dX7_lesserParts_12 : decode cX7_lesserParts 12 = .ok (.if_icmp .ge 42, 3) := by decide +kernel
theorem dX7_lesserParts_15 : decode cX7_lesserParts 15 = .ok (.aload_n 0, 1) := by decide +kernel
theorem dX7_lesserParts_16 : decode cX7_lesserParts 16 = .ok (.getfield 41, 3) := by decide +kernel
theorem dX7_lesserParts_19 : decode cX7_lesserParts 19 = .ok (.aload_n 0, 1) := by decide +kernel
theorem dX7_lesserParts_20 : decode cX7_lesserParts 20 = .ok (.getfield 10, 3) := by decide +kernel
theorem dX7_lesserParts_23 : decode cX7_lesserParts 23 = .ok (.getfield 133, 3) := by decide +kernel
theorem dX7_lesserParts_26 : decode cX7_lesserParts 26 = .ok (.iload_n 2, 1) := by decide +kernel
theorem dX7_lesserParts_27 : decode cX7_lesserParts 27 = .ok (.aaload, 1) := by decide +kernel
theorem dX7_lesserParts_28 : decode cX7_lesserParts 28 = .ok (.aload_n 0, 1) := by decide +kernel
theorem dX7_lesserParts_29 : decode cX7_lesserParts 29 = .ok (.getfield 10, 3) := by decide +kernel
theorem dX7_lesserParts_32 : decode cX7_lesserParts 32 = .ok (.getfield 137, 3) := by decide +kernel
theorem dX7_lesserParts_35 : decode cX7_lesserParts 35 = .ok (.invokevirtual 141, 3) := by decide +kernel
theorem dX7_lesserParts_38 : decode cX7_lesserParts 38 = .ok (.iload_n 1, 1) := by decide +kernel
theorem dX7_lesserParts_39 : decode cX7_lesserParts 39 = .ok (.aload_n 0, 1) := by decide +kernel
theorem dX7_lesserParts_40 : decode cX7_lesserParts 40 = .ok (.getfield 41, 3) := by decide +kernel
theorem dX7_lesserParts_43 : decode cX7_lesserParts 43 = .ok (.getfield 371, 3) := by decide +kernel
theorem dX7_lesserParts_46 : decode cX7_lesserParts 46 = .ok (.iadd, 1) := by decide +kernel
theorem dX7_lesserParts_47 : decode cX7_lesserParts 47 = .ok (.istore_n 1, 1) := by decide +kernel
theorem dX7_lesserParts_48 : decode cX7_lesserParts 48 = .ok (.iinc 2 1, 3) := by decide +kernel
theorem dX7_lesserParts_51 : decode cX7_lesserParts 51 = .ok (.goto (-47), 3) := by decide +kernel
theorem dX7_lesserParts_54 : decode cX7_lesserParts 54 = .ok (.iload_n 1, 1) := by decide +kernel
theorem dX7_lesserParts_55 : decode cX7_lesserParts 55 = .ok (.ireturn, 1) := by decide +kernel
theorem dX7_totalOfSwap_0 : decode cX7_totalOfSwap 0 = .ok (.aload_n 0, 1) := by decide +kernel
theorem dX7_totalOfSwap_1 : decode cX7_totalOfSwap 1 = .ok (.getfield 65, 3) := by decide +kernel
theorem dX7_totalOfSwap_4 : decode cX7_totalOfSwap 4 = .ok (.iload_n 2, 1) := by decide +kernel
theorem dX7_totalOfSwap_5 : decode cX7_totalOfSwap 5 = .ok (.aload_n 1, 1) := by decide +kernel
theorem dX7_totalOfSwap_6 : decode cX7_totalOfSwap 6 = .ok (.iload_n 3, 1) := by decide +kernel
theorem dX7_totalOfSwap_7 : decode cX7_totalOfSwap 7 = .ok (.invokevirtual 301, 3) := by decide +kernel
theorem dX7_totalOfSwap_10 : decode cX7_totalOfSwap 10 = .ok (.aload_n 0, 1) := by decide +kernel
theorem dX7_totalOfSwap_11 : decode cX7_totalOfSwap 11 = .ok (.getfield 65, 3) := by decide +kernel
theorem dX7_totalOfSwap_14 : decode cX7_totalOfSwap 14 = .ok (.iload_n 3, 1) := by decide +kernel
theorem dX7_totalOfSwap_15 : decode cX7_totalOfSwap 15 = .ok (.aload_n 1, 1) := by decide +kernel
theorem dX7_totalOfSwap_16 : decode cX7_totalOfSwap 16 = .ok (.iload_n 2, 1) := by decide +kernel
theorem dX7_totalOfSwap_17 : decode cX7_totalOfSwap 17 = .ok (.invokevirtual 301, 3) := by decide +kernel
theorem dX7_totalOfSwap_20 : decode cX7_totalOfSwap 20 = .ok (.aload_n 0, 1) := by decide +kernel
theorem dX7_totalOfSwap_21 : decode cX7_totalOfSwap 21 = .ok (.getfield 41, 3) := by decide +kernel
theorem dX7_totalOfSwap_24 : decode cX7_totalOfSwap 24 = .ok (.aload_n 0, 1) := by decide +kernel
theorem dX7_totalOfSwap_25 : decode cX7_totalOfSwap 25 = .ok (.getfield 65, 3) := by decide +kernel
theorem dX7_totalOfSwap_28 : decode cX7_totalOfSwap 28 = .ok (.aload_n 0, 1) := by decide +kernel
theorem dX7_totalOfSwap_29 : decode cX7_totalOfSwap 29 = .ok (.getfield 10, 3) := by decide +kernel
theorem dX7_totalOfSwap_32 : decode cX7_totalOfSwap 32 = .ok (.getfield 137, 3) := by decide +kernel
theorem dX7_totalOfSwap_35 : decode cX7_totalOfSwap 35 = .ok (.invokevirtual 141, 3) := by decide +kernel
theorem dX7_totalOfSwap_38 : decode cX7_totalOfSwap 38 = .ok (.aload_n 0, 1) := by decide +kernel
theorem dX7_totalOfSwap_39 : decode cX7_totalOfSwap 39 = .ok (.getfield 65, 3) := by decide +kernel
theorem dX7_totalOfSwap_42 : decode cX7_totalOfSwap 42 = .ok (.iload_n 2, 1) := by decide +kernel
theorem dX7_totalOfSwap_43 : decode cX7_totalOfSwap 43 = .ok (.aload_n 1, 1) := by decide +kernel
theorem dX7_totalOfSwap_44 : decode cX7_totalOfSwap 44 = .ok (.iload_n 2, 1) := by decide +kernel
theorem dX7_totalOfSwap_45 : decode cX7_totalOfSwap 45 = .ok (.invokevirtual 301, 3) := by decide +kernel
theorem dX7_totalOfSwap_48 : decode cX7_totalOfSwap 48 = .ok (.aload_n 0, 1) := by decide +kernel
theorem dX7_totalOfSwap_49 : decode cX7_totalOfSwap 49 = .ok (.getfield 65, 3) := by decide +kernel
theorem dX7_totalOfSwap_52 : decode cX7_totalOfSwap 52 = .ok (.iload_n 3, 1) := by decide +kernel
theorem dX7_totalOfSwap_53 : decode cX7_totalOfSwap 53 = .ok (.aload_n 1, 1) := by decide +kernel
theorem dX7_totalOfSwap_54 : decode cX7_totalOfSwap 54 = .ok (.iload_n 3, 1) := by decide +kernel
theorem dX7_totalOfSwap_55 : decode cX7_totalOfSwap 55 = .ok (.invokevirtual 301, 3) := by decide +kernel
theorem dX7_totalOfSwap_58 : decode cX7_totalOfSwap 58 = .ok (.aload_n 0, 1) := by decide +kernel
theorem dX7_totalOfSwap_59 : decode cX7_totalOfSwap 59 = .ok (.getfield 41, 3) := by decide +kernel
theorem dX7_totalOfSwap_62 : decode cX7_totalOfSwap 62 = .ok (.invokevirtual 157, 3) := by decide +kernel
theorem dX7_totalOfSwap_65 : decode cX7_totalOfSwap 65 = .ok (.ireturn, 1) := by decide +kernel
theorem dX7_acts_0 : decode cX7_acts 0 = .ok (.aload_n 0, 1) := by decide +kernel
theorem dX7_acts_1 : decode cX7_acts 1 = .ok (.getfield 55, 3) := by decide +kernel
theorem dX7_acts_4 : decode cX7_acts 4 = .ok (.getfield 374, 3) := by decide +kernel
theorem dX7_acts_7 : decode cX7_acts 7 = .ok (.istore_n 1, 1) := by decide +kernel
theorem dX7_acts_8 : decode cX7_acts 8 = .ok (.aload_n 0, 1) := by decide +kernel
theorem dX7_acts_9 : decode cX7_acts 9 = .ok (.getfield 55, 3) := by decide +kernel
theorem dX7_acts_12 : decode cX7_acts 12 = .ok (.getfield 377, 3) := by decide +kernel
theorem dX7_acts_15 : decode cX7_acts 15 = .ok (.istore_n 2, 1) := by decide +kernel
theorem dX7_acts_16 : decode cX7_acts 16 = .ok (.aload_n 0, 1) := by decide +kernel
theorem dX7_acts_17 : decode cX7_acts 17 = .ok (.getfield 55, 3) := by decide +kernel
theorem dX7_acts_20 : decode cX7_acts 20 = .ok (.getfield 339, 3) := by decide +kernel
theorem dX7_acts_23 : decode cX7_acts 23 = .ok (.tableswitch 167 1 5 #[33, 63, 87, 117, 145], 33) := by decide +kernel
theorem dX7_acts_56 : decode cX7_acts 56 = .ok (.iload_n 2, 1) := by decide +kernel
theorem dX7_acts_57 : decode cX7_acts 57 = .ok (.iconst 1, 1) := by decide +kernel
theorem dX7_acts_58 : decode cX7_acts 58 = .ok (.if_icmp .gt 26, 3) := by decide +kernel
theorem dX7_acts_61 : decode cX7_acts 61 = .ok (.aload_n 0, 1) := by decide +kernel
theorem dX7_acts_62 : decode cX7_acts 62 = .ok (.getfield 59, 3) := by decide +kernel
theorem dX7_acts_65 : decode cX7_acts 65 = .ok (.iload_n 1, 1) := by decide +kernel
theorem dX7_acts_66 : decode cX7_acts 66 = .ok (.aload_n 0, 1) := by decide +kernel
theorem dX7_acts_67 : decode cX7_acts 67 = .ok (.getfield 55, 3) := by decide +kernel
theorem dX7_acts_70 : decode cX7_acts 70 = .ok (.invokevirtual 380, 3) := by decide +kernel
theorem dX7_acts_73 : decode cX7_acts 73 = .ok (.iload_n 2, 1) := by decide +kernel
theorem dX7_acts_74 : decode cX7_acts 74 = .ok (.invokevirtual 268, 3) := by decide +kernel
theorem dX7_acts_77 : decode cX7_acts 77 = .ok (.ifCond .eq 7, 3) := by decide +kernel
theorem dX7_acts_80 : decode cX7_acts 80 = .ok (.iconst 1, 1) := by decide +kernel
theorem dX7_acts_81 : decode cX7_acts 81 = .ok (.goto 4, 3) := by decide +kernel
theorem dX7_acts_84 : decode cX7_acts 84 = .ok (.iconst 0, 1) := by decide +kernel
theorem dX7_acts_85 : decode cX7_acts 85 = .ok (.ireturn, 1) := by decide +kernel
theorem dX7_acts_86 : decode cX7_acts 86 = .ok (.aload_n 0, 1) := by decide +kernel
theorem dX7_acts_87 : decode cX7_acts 87 = .ok (.getfield 59, 3) := by decide +kernel
theorem dX7_acts_90 : decode cX7_acts 90 = .ok (.iload_n 1, 1) := by decide +kernel
theorem dX7_acts_91 : decode cX7_acts 91 = .ok (.aload_n 0, 1) := by decide +kernel
theorem dX7_acts_92 : decode cX7_acts 92 = .ok (.getfield 55, 3) := by decide +kernel
theorem dX7_acts_95 : decode cX7_acts 95 = .ok (.getfield 383, 3) := by decide +kernel
theorem dX7_acts_98 : decode cX7_acts 98 = .ok (.aload_n 0, 1) := by decide +kernel
theorem dX7_acts_99 : decode cX7_acts 99 = .ok (.getfield 55, 3) := by decide +kernel
theorem dX7_acts_102 : decode cX7_acts 102 = .ok (.getfield 386, 3) := by decide +kernel
theorem dX7_acts_105 : decode cX7_acts 105 = .ok (.iload_n 2, 1) := by decide +kernel
theorem dX7_acts_106 : decode cX7_acts 106 = .ok (.invokevirtual 261, 3) := by decide +kernel
theorem dX7_acts_109 : decode cX7_acts 109 = .ok (.ireturn, 1) := by decide +kernel
theorem dX7_acts_110 : decode cX7_acts 110 = .ok (.iload_n 2, 1) := by decide +kernel
theorem dX7_acts_111 : decode cX7_acts 111 = .ok (.iconst 1, 1) := by decide +kernel
theorem dX7_acts_112 : decode cX7_acts 112 = .ok (.if_icmp .gt 26, 3) := by decide +kernel
theorem dX7_acts_115 : decode cX7_acts 115 = .ok (.aload_n 0, 1) := by decide +kernel
theorem dX7_acts_116 : decode cX7_acts 116 = .ok (.getfield 59, 3) := by decide +kernel
theorem dX7_acts_119 : decode cX7_acts 119 = .ok (.iload_n 1, 1) := by decide +kernel
theorem dX7_acts_120 : decode cX7_acts 120 = .ok (.aload_n 0, 1) := by decide +kernel
theorem dX7_acts_121 : decode cX7_acts 121 = .ok (.getfield 55, 3) := by decide +kernel
theorem dX7_acts_124 : decode cX7_acts 124 = .ok (.invokevirtual 380, 3) := by decide +kernel
theorem dX7_acts_127 : decode cX7_acts 127 = .ok (.iload_n 2, 1) := by decide +kernel
theorem dX7_acts_128 : decode cX7_acts 128 = .ok (.invokevirtual 265, 3) := by decide +kernel
theorem dX7_acts_131 : decode cX7_acts 131 = .ok (.ifCond .eq 7, 3) := by decide +kernel
theorem dX7_acts_134 : decode cX7_acts 134 = .ok (.iconst 1, 1) := by decide +kernel
theorem dX7_acts_135 : decode cX7_acts 135 = .ok (.goto 4, 3) := by decide +kernel
theorem dX7_acts_138 : decode cX7_acts 138 = .ok (.iconst 0, 1) := by decide +kernel
theorem dX7_acts_139 : decode cX7_acts 139 = .ok (.ireturn, 1) := by decide +kernel
theorem dX7_acts_140 : decode cX7_acts 140 = .ok (.aload_n 0, 1) := by decide +kernel
theorem dX7_acts_141 : decode cX7_acts 141 = .ok (.getfield 55, 3) := by decide +kernel
theorem dX7_acts_144 : decode cX7_acts 144 = .ok (.invokevirtual 380, 3) := by decide +kernel
theorem dX7_acts_147 : decode cX7_acts 147 = .ok (.ifCond .ne 19, 3) := by decide +kernel
theorem dX7_acts_150 : decode cX7_acts 150 = .ok (.aload_n 0, 1) := by decide +kernel
theorem dX7_acts_151 : decode cX7_acts 151 = .ok (.getfield 59, 3) := by decide +kernel
theorem dX7_acts_154 : decode cX7_acts 154 = .ok (.iload_n 1, 1) := by decide +kernel
theorem dX7_acts_155 : decode cX7_acts 155 = .ok (.iload_n 2, 1) := by decide +kernel
theorem dX7_acts_156 : decode cX7_acts 156 = .ok (.invokevirtual 276, 3) := by decide +kernel
theorem dX7_acts_159 : decode cX7_acts 159 = .ok (.ifCond .eq 7, 3) := by decide +kernel
theorem dX7_acts_162 : decode cX7_acts 162 = .ok (.iconst 1, 1) := by decide +kernel
theorem dX7_acts_163 : decode cX7_acts 163 = .ok (.goto 4, 3) := by decide +kernel
theorem dX7_acts_166 : decode cX7_acts 166 = .ok (.iconst 0, 1) := by decide +kernel
theorem dX7_acts_167 : decode cX7_acts 167 = .ok (.ireturn, 1) := by decide +kernel
theorem dX7_acts_168 : decode cX7_acts 168 = .ok (.aload_n 0, 1) := by decide +kernel
theorem dX7_acts_169 : decode cX7_acts 169 = .ok (.getfield 59, 3) := by decide +kernel
theorem dX7_acts_172 : decode cX7_acts 172 = .ok (.aload_n 0, 1) := by decide +kernel
theorem dX7_acts_173 : decode cX7_acts 173 = .ok (.getfield 55, 3) := by decide +kernel
theorem dX7_acts_176 : decode cX7_acts 176 = .ok (.getfield 374, 3) := by decide +kernel
theorem dX7_acts_179 : decode cX7_acts 179 = .ok (.aload_n 0, 1) := by decide +kernel
theorem dX7_acts_180 : decode cX7_acts 180 = .ok (.getfield 55, 3) := by decide +kernel
theorem dX7_acts_183 : decode cX7_acts 183 = .ok (.invokevirtual 389, 3) := by decide +kernel
theorem dX7_acts_186 : decode cX7_acts 186 = .ok (.invokevirtual 284, 3) := by decide +kernel
theorem dX7_acts_189 : decode cX7_acts 189 = .ok (.ireturn, 1) := by decide +kernel
theorem dX7_acts_190 : decode cX7_acts 190 = .ok (.iconst 0, 1) := by decide +kernel
theorem dX7_acts_191 : decode cX7_acts 191 = .ok (.ireturn, 1) := by decide +kernel
theorem dX7_holds_0 : decode cX7_holds 0 = .ok (.aload_n 0, 1) := by decide +kernel
theorem dX7_holds_1 : decode cX7_holds 1 = .ok (.getfield 55, 3) := by decide +kernel
theorem dX7_holds_4 : decode cX7_holds 4 = .ok (.getfield 374, 3) := by decide +kernel
theorem dX7_holds_7 : decode cX7_holds 7 = .ok (.istore_n 1, 1) := by decide +kernel
theorem dX7_holds_8 : decode cX7_holds 8 = .ok (.aload_n 0, 1) := by decide +kernel
theorem dX7_holds_9 : decode cX7_holds 9 = .ok (.getfield 55, 3) := by decide +kernel
theorem dX7_holds_12 : decode cX7_holds 12 = .ok (.getfield 339, 3) := by decide +kernel
theorem dX7_holds_15 : decode cX7_holds 15 = .ok (.bipush 9, 2) := by decide +kernel
theorem dX7_holds_17 : decode cX7_holds 17 = .ok (.if_icmp .ne 40, 3) := by decide +kernel
theorem dX7_holds_20 : decode cX7_holds 20 = .ok (.iload_n 1, 1) := by decide +kernel
theorem dX7_holds_21 : decode cX7_holds 21 = .ok (.ifCond .ne 34, 3) := by decide +kernel
theorem dX7_holds_24 : decode cX7_holds 24 = .ok (.aload_n 0, 1) := by decide +kernel
theorem dX7_holds_25 : decode cX7_holds 25 = .ok (.getfield 55, 3) := by decide +kernel
theorem dX7_holds_28 : decode cX7_holds 28 = .ok (.getfield 377, 3) := by decide +kernel
theorem dX7_holds_31 : decode cX7_holds 31 = .ok (.ifCond .ne 24, 3) := by decide +kernel
theorem dX7_holds_34 : decode cX7_holds 34 = .ok (.aload_n 0, 1) := by decide +kernel
theorem dX7_holds_35 : decode cX7_holds 35 = .ok (.getfield 59, 3) := by decide +kernel
theorem dX7_holds_38 : decode cX7_holds 38 = .ok (.invokevirtual 102, 3) := by decide +kernel
theorem dX7_holds_41 : decode cX7_holds 41 = .ok (.aload_n 0, 1) := by decide +kernel
theorem dX7_holds_42 : decode cX7_holds 42 = .ok (.getfield 55, 3) := by decide +kernel
theorem dX7_holds_45 : decode cX7_holds 45 = .ok (.invokevirtual 380, 3) := by decide +kernel
theorem dX7_holds_48 : decode cX7_holds 48 = .ok (.if_icmp .gt 7, 3) := by decide +kernel
theorem dX7_holds_51 : decode cX7_holds 51 = .ok (.iconst 1, 1) := by decide +kernel
theorem dX7_holds_52 : decode cX7_holds 52 = .ok (.goto 4, 3) := by decide +kernel
theorem dX7_holds_55 : decode cX7_holds 55 = .ok (.iconst 0, 1) := by decide +kernel
theorem dX7_holds_56 : decode cX7_holds 56 = .ok (.ireturn, 1) := by decide +kernel
theorem dX7_holds_57 : decode cX7_holds 57 = .ok (.aload_n 0, 1) := by decide +kernel
theorem dX7_holds_58 : decode cX7_holds 58 = .ok (.getfield 59, 3) := by decide +kernel
theorem dX7_holds_61 : decode cX7_holds 61 = .ok (.iload_n 1, 1) := by decide +kernel
theorem dX7_holds_62 : decode cX7_holds 62 = .ok (.invokevirtual 122, 3) := by decide +kernel
theorem dX7_holds_65 : decode cX7_holds 65 = .ok (.ifCond .ne 5, 3) := by decide +kernel
theorem dX7_holds_68 : decode cX7_holds 68 = .ok (.iconst 0, 1) := by decide +kernel
theorem dX7_holds_69 : decode cX7_holds 69 = .ok (.ireturn, 1) := by decide +kernel
theorem dX7_holds_70 : decode cX7_holds 70 = .ok (.aload_n 0, 1) := by decide +kernel
theorem dX7_holds_71 : decode cX7_holds 71 = .ok (.getfield 55, 3) := by decide +kernel
theorem dX7_holds_74 : decode cX7_holds 74 = .ok (.getfield 339, 3) := by decide +kernel
theorem dX7_holds_77 : decode cX7_holds 77 = .ok (.bipush 6, 2) := by decide +kernel
theorem dX7_holds_79 : decode cX7_holds 79 = .ok (.if_icmp .ne 52, 3) := by decide +kernel
theorem dX7_holds_82 : decode cX7_holds 82 = .ok (.aload_n 0, 1) := by decide +kernel
theorem dX7_holds_83 : decode cX7_holds 83 = .ok (.getfield 48, 3) := by decide +kernel
theorem dX7_holds_86 : decode cX7_holds 86 = .ok (.aload_n 0, 1) := by decide +kernel
theorem dX7_holds_87 : decode cX7_holds 87 = .ok (.getfield 59, 3) := by decide +kernel
theorem dX7_holds_90 : decode cX7_holds 90 = .ok (.aload_n 0, 1) := by decide +kernel
theorem dX7_holds_91 : decode cX7_holds 91 = .ok (.getfield 41, 3) := by decide +kernel
theorem dX7_holds_94 : decode cX7_holds 94 = .ok (.invokevirtual 112, 3) := by decide +kernel
theorem dX7_holds_97 : decode cX7_holds 97 = .ok (.aload_n 0, 1) := by decide +kernel
theorem dX7_holds_98 : decode cX7_holds 98 = .ok (.getfield 55, 3) := by decide +kernel
theorem dX7_holds_101 : decode cX7_holds 101 = .ok (.invokevirtual 380, 3) := by decide +kernel
theorem dX7_holds_104 : decode cX7_holds 104 = .ok (.ifCond .ne 25, 3) := by decide +kernel
theorem dX7_holds_107 : decode cX7_holds 107 = .ok (.aload_n 0, 1) := by decide +kernel
theorem dX7_holds_108 : decode cX7_holds 108 = .ok (.getfield 48, 3) := by decide +kernel
theorem dX7_holds_111 : decode cX7_holds 111 = .ok (.iload_n 1, 1) := by decide +kernel
theorem dX7_holds_112 : decode cX7_holds 112 = .ok (.invokevirtual 160, 3) := by decide +kernel
theorem dX7_holds_115 : decode cX7_holds 115 = .ok (.aload_n 0, 1) := by decide +kernel
theorem dX7_holds_116 : decode cX7_holds 116 = .ok (.getfield 55, 3) := by decide +kernel
theorem dX7_holds_119 : decode cX7_holds 119 = .ok (.getfield 377, 3) := by decide +kernel
theorem dX7_holds_122 : decode cX7_holds 122 = .ok (.if_icmp .ne 7, 3) := by decide +kernel
theorem dX7_holds_125 : decode cX7_holds 125 = .ok (.iconst 1, 1) := by decide +kernel
theorem dX7_holds_126 : decode cX7_holds 126 = .ok (.goto 4, 3) := by decide +kernel
theorem dX7_holds_129 : decode cX7_holds 129 = .ok (.iconst 0, 1) := by decide +kernel
theorem dX7_holds_130 : decode cX7_holds 130 = .ok (.ireturn, 1) := by decide +kernel
theorem dX7_holds_131 : decode cX7_holds 131 = .ok (.aload_n 0, 1) := by decide +kernel
theorem dX7_holds_132 : decode cX7_holds 132 = .ok (.getfield 41, 3) := by decide +kernel
theorem dX7_holds_135 : decode cX7_holds 135 = .ok (.aload_n 0, 1) := by decide +kernel
theorem dX7_holds_136 : decode cX7_holds 136 = .ok (.getfield 59, 3) := by decide +kernel
theorem dX7_holds_139 : decode cX7_holds 139 = .ok (.getfield 133, 3) := by decide +kernel
theorem dX7_holds_142 : decode cX7_holds 142 = .ok (.iload_n 1, 1) := by decide +kernel
theorem dX7_holds_143 : decode cX7_holds 143 = .ok (.aaload, 1) := by decide +kernel
theorem dX7_holds_144 : decode cX7_holds 144 = .ok (.aload_n 0, 1) := by decide +kernel
theorem dX7_holds_145 : decode cX7_holds 145 = .ok (.getfield 59, 3) := by decide +kernel
theorem dX7_holds_148 : decode cX7_holds 148 = .ok (.getfield 137, 3) := by decide +kernel
theorem dX7_holds_151 : decode cX7_holds 151 = .ok (.invokevirtual 141, 3) := by decide +kernel
theorem dX7_holds_154 : decode cX7_holds 154 = .ok (.aload_n 0, 1) := by decide +kernel
theorem dX7_holds_155 : decode cX7_holds 155 = .ok (.getfield 55, 3) := by decide +kernel
theorem dX7_holds_158 : decode cX7_holds 158 = .ok (.getfield 339, 3) := by decide +kernel
theorem dX7_holds_161 : decode cX7_holds 161 = .ok (.bipush 7, 2) := by decide +kernel
theorem dX7_holds_163 : decode cX7_holds 163 = .ok (.if_icmp .ne 29, 3) := by decide +kernel
theorem dX7_holds_166 : decode cX7_holds 166 = .ok (.aload_n 0, 1) := by decide +kernel
theorem dX7_holds_167 : decode cX7_holds 167 = .ok (.getfield 41, 3) := by decide +kernel
theorem dX7_holds_170 : decode cX7_holds 170 = .ok (.invokevirtual 157, 3) := by decide +kernel
theorem dX7_holds_173 : decode cX7_holds 173 = .ok (.bipush 10, 2) := by decide +kernel
theorem dX7_holds_175 : decode cX7_holds 175 = .ok (.aload_n 0, 1) := by decide +kernel
theorem dX7_holds_176 : decode cX7_holds 176 = .ok (.getfield 55, 3) := by decide +kernel
theorem dX7_holds_179 : decode cX7_holds 179 = .ok (.invokevirtual 389, 3) := by decide +kernel
theorem dX7_holds_182 : decode cX7_holds 182 = .ok (.imul, 1) := by decide +kernel
theorem dX7_holds_183 : decode cX7_holds 183 = .ok (.if_icmp .lt 7, 3) := by decide +kernel
theorem dX7_holds_186 : decode cX7_holds 186 = .ok (.iconst 1, 1) := by decide +kernel
theorem dX7_holds_187 : decode cX7_holds 187 = .ok (.goto 4, 3) := by decide +kernel
theorem dX7_holds_190 : decode cX7_holds 190 = .ok (.iconst 0, 1) := by decide +kernel
theorem dX7_holds_191 : decode cX7_holds 191 = .ok (.ireturn, 1) := by decide +kernel
theorem dX7_holds_192 : decode cX7_holds 192 = .ok (.aload_n 0, 1) := by decide +kernel
theorem dX7_holds_193 : decode cX7_holds 193 = .ok (.getfield 55, 3) := by decide +kernel
theorem dX7_holds_196 : decode cX7_holds 196 = .ok (.getfield 383, 3) := by decide +kernel
theorem dX7_holds_199 : decode cX7_holds 199 = .ok (.istore_n 2, 1) := by decide +kernel
theorem dX7_holds_200 : decode cX7_holds 200 = .ok (.aload_n 0, 1) := by decide +kernel
theorem dX7_holds_201 : decode cX7_holds 201 = .ok (.getfield 55, 3) := by decide +kernel
theorem dX7_holds_204 : decode cX7_holds 204 = .ok (.getfield 386, 3) := by decide +kernel
theorem dX7_holds_207 : decode cX7_holds 207 = .ok (.istore_n 3, 1) := by decide +kernel
theorem dX7_holds_208 : decode cX7_holds 208 = .ok (.aload_n 0, 1) := by decide +kernel
theorem dX7_holds_209 : decode cX7_holds 209 = .ok (.getfield 59, 3) := by decide +kernel
theorem dX7_holds_212 : decode cX7_holds 212 = .ok (.iload_n 1, 1) := by decide +kernel
theorem dX7_holds_213 : decode cX7_holds 213 = .ok (.iload_n 2, 1) := by decide +kernel
theorem dX7_holds_214 : decode cX7_holds 214 = .ok (.iload_n 3, 1) := by decide +kernel
theorem dX7_holds_215 : decode cX7_holds 215 = .ok (.invokevirtual 198, 3) := by decide +kernel
theorem dX7_holds_218 : decode cX7_holds 218 = .ok (.ifCond .eq 30, 3) := by decide +kernel
theorem dX7_holds_221 : decode cX7_holds 221 = .ok (.aload_n 0, 1) := by decide +kernel
theorem dX7_holds_222 : decode cX7_holds 222 = .ok (.getfield 41, 3) := by decide +kernel
theorem dX7_holds_225 : decode cX7_holds 225 = .ok (.getfield 218, 3) := by decide +kernel
theorem dX7_holds_228 : decode cX7_holds 228 = .ok (.iconst 3, 1) := by decide +kernel
theorem dX7_holds_229 : decode cX7_holds 229 = .ok (.iload_n 2, 1) := by decide +kernel
theorem dX7_holds_230 : decode cX7_holds 230 = .ok (.imul, 1) := by decide +kernel
theorem dX7_holds_231 : decode cX7_holds 231 = .ok (.iload_n 3, 1) := by decide +kernel
theorem dX7_holds_232 : decode cX7_holds 232 = .ok (.iadd, 1) := by decide +kernel
theorem dX7_holds_233 : decode cX7_holds 233 = .ok (.iaload, 1) := by decide +kernel
theorem dX7_holds_234 : decode cX7_holds 234 = .ok (.aload_n 0, 1) := by decide +kernel
theorem dX7_holds_235 : decode cX7_holds 235 = .ok (.getfield 55, 3) := by decide +kernel
theorem dX7_holds_238 : decode cX7_holds 238 = .ok (.getfield 377, 3) := by decide +kernel
theorem dX7_holds_241 : decode cX7_holds 241 = .ok (.if_icmp .ne 7, 3) := by decide +kernel
theorem dX7_holds_244 : decode cX7_holds 244 = .ok (.iconst 1, 1) := by decide +kernel
theorem dX7_holds_245 : decode cX7_holds 245 = .ok (.goto 4, 3) := by decide +kernel
theorem dX7_holds_248 : decode cX7_holds 248 = .ok (.iconst 0, 1) := by decide +kernel
theorem dX7_holds_249 : decode cX7_holds 249 = .ok (.ireturn, 1) := by decide +kernel
theorem dX7_takeTurn_0 : decode cX7_takeTurn 0 = .ok (.iload_n 1, 1) := by decide +kernel
theorem dX7_takeTurn_1 : decode cX7_takeTurn 1 = .ok (.bipush 8, 2) := by decide +kernel
theorem dX7_takeTurn_3 : decode cX7_takeTurn 3 = .ok (.idiv, 1) := by decide +kernel
theorem dX7_takeTurn_4 : decode cX7_takeTurn 4 = .ok (.iconst 4, 1) := by decide +kernel
theorem dX7_takeTurn_5 : decode cX7_takeTurn 5 = .ok (.irem, 1) := by decide +kernel
theorem dX7_takeTurn_6 : decode cX7_takeTurn 6 = .ok (.istore_n 2, 1) := by decide +kernel
theorem dX7_takeTurn_7 : decode cX7_takeTurn 7 = .ok (.iload_n 1, 1) := by decide +kernel
theorem dX7_takeTurn_8 : decode cX7_takeTurn 8 = .ok (.bipush 32, 2) := by decide +kernel
theorem dX7_takeTurn_10 : decode cX7_takeTurn 10 = .ok (.idiv, 1) := by decide +kernel
theorem dX7_takeTurn_11 : decode cX7_takeTurn 11 = .ok (.bipush 12, 2) := by decide +kernel
theorem dX7_takeTurn_13 : decode cX7_takeTurn 13 = .ok (.irem, 1) := by decide +kernel
theorem dX7_takeTurn_14 : decode cX7_takeTurn 14 = .ok (.istore_n 3, 1) := by decide +kernel
theorem dX7_takeTurn_15 : decode cX7_takeTurn 15 = .ok (.iload_n 1, 1) := by decide +kernel
theorem dX7_takeTurn_16 : decode cX7_takeTurn 16 = .ok (.bipush 8, 2) := by decide +kernel
theorem dX7_takeTurn_18 : decode cX7_takeTurn 18 = .ok (.irem, 1) := by decide +kernel
theorem dX7_takeTurn_19 : decode cX7_takeTurn 19 = .ok (.tableswitch 136 3 7 #[33, 62, 62, 89, 117], 33) := by decide +kernel
theorem dX7_takeTurn_52 : decode cX7_takeTurn 52 = .ok (.aload_n 0, 1) := by decide +kernel
theorem dX7_takeTurn_53 : decode cX7_takeTurn 53 = .ok (.getfield 59, 3) := by decide +kernel
theorem dX7_takeTurn_56 : decode cX7_takeTurn 56 = .ok (.iload_n 2, 1) := by decide +kernel
theorem dX7_takeTurn_57 : decode cX7_takeTurn 57 = .ok (.iload_n 1, 1) := by decide +kernel
theorem dX7_takeTurn_58 : decode cX7_takeTurn 58 = .ok (.bipush 32, 2) := by decide +kernel
theorem dX7_takeTurn_60 : decode cX7_takeTurn 60 = .ok (.idiv, 1) := by decide +kernel
theorem dX7_takeTurn_61 : decode cX7_takeTurn 61 = .ok (.iconst 3, 1) := by decide +kernel
theorem dX7_takeTurn_62 : decode cX7_takeTurn 62 = .ok (.irem, 1) := by decide +kernel
theorem dX7_takeTurn_63 : decode cX7_takeTurn 63 = .ok (.iload_n 1, 1) := by decide +kernel
theorem dX7_takeTurn_64 : decode cX7_takeTurn 64 = .ok (.sipush 128, 3) := by decide +kernel
theorem dX7_takeTurn_67 : decode cX7_takeTurn 67 = .ok (.idiv, 1) := by decide +kernel
theorem dX7_takeTurn_68 : decode cX7_takeTurn 68 = .ok (.ldc_w 392, 3) := by decide +kernel
theorem dX7_takeTurn_71 : decode cX7_takeTurn 71 = .ok (.irem, 1) := by decide +kernel
theorem dX7_takeTurn_72 : decode cX7_takeTurn 72 = .ok (.invokestatic 251, 3) := by decide +kernel
theorem dX7_takeTurn_75 : decode cX7_takeTurn 75 = .ok (.invokevirtual 254, 3) := by decide +kernel
theorem dX7_takeTurn_78 : decode cX7_takeTurn 78 = .ok (.goto 98, 3) := by decide +kernel
theorem dX7_takeTurn_81 : decode cX7_takeTurn 81 = .ok (.aload_n 0, 1) := by decide +kernel
theorem dX7_takeTurn_82 : decode cX7_takeTurn 82 = .ok (.getfield 59, 3) := by decide +kernel
theorem dX7_takeTurn_85 : decode cX7_takeTurn 85 = .ok (.iload_n 2, 1) := by decide +kernel
theorem dX7_takeTurn_86 : decode cX7_takeTurn 86 = .ok (.iload_n 3, 1) := by decide +kernel
theorem dX7_takeTurn_87 : decode cX7_takeTurn 87 = .ok (.iload_n 1, 1) := by decide +kernel
theorem dX7_takeTurn_88 : decode cX7_takeTurn 88 = .ok (.sipush 512, 3) := by decide +kernel
theorem dX7_takeTurn_91 : decode cX7_takeTurn 91 = .ok (.idiv, 1) := by decide +kernel
theorem dX7_takeTurn_92 : decode cX7_takeTurn 92 = .ok (.iconst 3, 1) := by decide +kernel
theorem dX7_takeTurn_93 : decode cX7_takeTurn 93 = .ok (.irem, 1) := by decide +kernel
theorem dX7_takeTurn_94 : decode cX7_takeTurn 94 = .ok (.iload_n 1, 1) := by decide +kernel
theorem dX7_takeTurn_95 : decode cX7_takeTurn 95 = .ok (.sipush 2048, 3) := by decide +kernel
theorem dX7_takeTurn_98 : decode cX7_takeTurn 98 = .ok (.idiv, 1) := by decide +kernel
theorem dX7_takeTurn_99 : decode cX7_takeTurn 99 = .ok (.iconst 4, 1) := by decide +kernel
theorem dX7_takeTurn_100 : decode cX7_takeTurn 100 = .ok (.irem, 1) := by decide +kernel
theorem dX7_takeTurn_101 : decode cX7_takeTurn 101 = .ok (.invokevirtual 261, 3) := by decide +kernel
theorem dX7_takeTurn_104 : decode cX7_takeTurn 104 = .ok (.pop, 1) := by decide +kernel
theorem dX7_takeTurn_105 : decode cX7_takeTurn 105 = .ok (.goto 71, 3) := by decide +kernel
theorem dX7_takeTurn_108 : decode cX7_takeTurn 108 = .ok (.aload_n 0, 1) := by decide +kernel
theorem dX7_takeTurn_109 : decode cX7_takeTurn 109 = .ok (.getfield 59, 3) := by decide +kernel
theorem dX7_takeTurn_112 : decode cX7_takeTurn 112 = .ok (.iload_n 2, 1) := by decide +kernel
theorem dX7_takeTurn_113 : decode cX7_takeTurn 113 = .ok (.iload_n 3, 1) := by decide +kernel
theorem dX7_takeTurn_114 : decode cX7_takeTurn 114 = .ok (.iload_n 1, 1) := by decide +kernel
theorem dX7_takeTurn_115 : decode cX7_takeTurn 115 = .ok (.sipush 512, 3) := by decide +kernel
theorem dX7_takeTurn_118 : decode cX7_takeTurn 118 = .ok (.idiv, 1) := by decide +kernel
theorem dX7_takeTurn_119 : decode cX7_takeTurn 119 = .ok (.iconst 2, 1) := by decide +kernel
theorem dX7_takeTurn_120 : decode cX7_takeTurn 120 = .ok (.irem, 1) := by decide +kernel
theorem dX7_takeTurn_121 : decode cX7_takeTurn 121 = .ok (.ifCond .ne 7, 3) := by decide +kernel
theorem dX7_takeTurn_124 : decode cX7_takeTurn 124 = .ok (.iconst 1, 1) := by decide +kernel
theorem dX7_takeTurn_125 : decode cX7_takeTurn 125 = .ok (.goto 4, 3) := by decide +kernel
theorem dX7_takeTurn_128 : decode cX7_takeTurn 128 = .ok (.iconst 0, 1) := by decide +kernel
theorem dX7_takeTurn_129 : decode cX7_takeTurn 129 = .ok (.invokevirtual 268, 3) := by decide +kernel
theorem dX7_takeTurn_132 : decode cX7_takeTurn 132 = .ok (.pop, 1) := by decide +kernel
theorem dX7_takeTurn_133 : decode cX7_takeTurn 133 = .ok (.goto 43, 3) := by decide +kernel
theorem dX7_takeTurn_136 : decode cX7_takeTurn 136 = .ok (.aload_n 0, 1) := by decide +kernel
theorem dX7_takeTurn_137 : decode cX7_takeTurn 137 = .ok (.getfield 59, 3) := by decide +kernel
theorem dX7_takeTurn_140 : decode cX7_takeTurn 140 = .ok (.iload_n 2, 1) := by decide +kernel
theorem dX7_takeTurn_141 : decode cX7_takeTurn 141 = .ok (.iload_n 1, 1) := by decide +kernel
theorem dX7_takeTurn_142 : decode cX7_takeTurn 142 = .ok (.bipush 32, 2) := by decide +kernel
theorem dX7_takeTurn_144 : decode cX7_takeTurn 144 = .ok (.idiv, 1) := by decide +kernel
theorem dX7_takeTurn_145 : decode cX7_takeTurn 145 = .ok (.bipush 10, 2) := by decide +kernel
theorem dX7_takeTurn_147 : decode cX7_takeTurn 147 = .ok (.irem, 1) := by decide +kernel
theorem dX7_takeTurn_148 : decode cX7_takeTurn 148 = .ok (.invokevirtual 276, 3) := by decide +kernel
theorem dX7_takeTurn_151 : decode cX7_takeTurn 151 = .ok (.pop, 1) := by decide +kernel
theorem dX7_takeTurn_152 : decode cX7_takeTurn 152 = .ok (.goto 24, 3) := by decide +kernel
theorem dX7_takeTurn_155 : decode cX7_takeTurn 155 = .ok (.aload_n 0, 1) := by decide +kernel
theorem dX7_takeTurn_156 : decode cX7_takeTurn 156 = .ok (.getfield 59, 3) := by decide +kernel
theorem dX7_takeTurn_159 : decode cX7_takeTurn 159 = .ok (.iload_n 2, 1) := by decide +kernel
theorem dX7_takeTurn_160 : decode cX7_takeTurn 160 = .ok (.iload_n 3, 1) := by decide +kernel
theorem dX7_takeTurn_161 : decode cX7_takeTurn 161 = .ok (.iload_n 1, 1) := by decide +kernel
theorem dX7_takeTurn_162 : decode cX7_takeTurn 162 = .ok (.sipush 512, 3) := by decide +kernel
theorem dX7_takeTurn_165 : decode cX7_takeTurn 165 = .ok (.idiv, 1) := by decide +kernel
theorem dX7_takeTurn_166 : decode cX7_takeTurn 166 = .ok (.ldc_w 393, 3) := by decide +kernel
theorem dX7_takeTurn_169 : decode cX7_takeTurn 169 = .ok (.irem, 1) := by decide +kernel
theorem dX7_takeTurn_170 : decode cX7_takeTurn 170 = .ok (.invokestatic 239, 3) := by decide +kernel
theorem dX7_takeTurn_173 : decode cX7_takeTurn 173 = .ok (.invokevirtual 242, 3) := by decide +kernel
theorem dX7_takeTurn_176 : decode cX7_takeTurn 176 = .ok (.return_, 1) := by decide +kernel
theorem dX7_kernelOf_0 : decode cX7_kernelOf 0 = .ok (.iload_n 0, 1) := by decide +kernel
theorem dX7_kernelOf_1 : decode cX7_kernelOf 1 = .ok (.bipush 11, 2) := by decide +kernel
theorem dX7_kernelOf_3 : decode cX7_kernelOf 3 = .ok (.irem, 1) := by decide +kernel
theorem dX7_kernelOf_4 : decode cX7_kernelOf 4 = .ok (.iload_n 0, 1) := by decide +kernel
theorem dX7_kernelOf_5 : decode cX7_kernelOf 5 = .ok (.bipush 11, 2) := by decide +kernel
theorem dX7_kernelOf_7 : decode cX7_kernelOf 7 = .ok (.idiv, 1) := by decide +kernel
theorem dX7_kernelOf_8 : decode cX7_kernelOf 8 = .ok (.bipush 11, 2) := by decide +kernel
theorem dX7_kernelOf_10 : decode cX7_kernelOf 10 = .ok (.irem, 1) := by decide +kernel
theorem dX7_kernelOf_11 : decode cX7_kernelOf 11 = .ok (.iload_n 0, 1) := by decide +kernel
theorem dX7_kernelOf_12 : decode cX7_kernelOf 12 = .ok (.bipush 121, 2) := by decide +kernel
theorem dX7_kernelOf_14 : decode cX7_kernelOf 14 = .ok (.idiv, 1) := by decide +kernel
theorem dX7_kernelOf_15 : decode cX7_kernelOf 15 = .ok (.bipush 11, 2) := by decide +kernel
theorem dX7_kernelOf_17 : decode cX7_kernelOf 17 = .ok (.irem, 1) := by decide +kernel
theorem dX7_kernelOf_18 : decode cX7_kernelOf 18 = .ok (.iload_n 0, 1) := by decide +kernel
theorem dX7_kernelOf_19 : decode cX7_kernelOf 19 = .ok (.sipush 1331, 3) := by decide +kernel
theorem dX7_kernelOf_22 : decode cX7_kernelOf 22 = .ok (.idiv, 1) := by decide +kernel
theorem dX7_kernelOf_23 : decode cX7_kernelOf 23 = .ok (.bipush 11, 2) := by decide +kernel
theorem dX7_kernelOf_25 : decode cX7_kernelOf 25 = .ok (.irem, 1) := by decide +kernel
theorem dX7_kernelOf_26 : decode cX7_kernelOf 26 = .ok (.iload_n 0, 1) := by decide +kernel
theorem dX7_kernelOf_27 : decode cX7_kernelOf 27 = .ok (.sipush 14641, 3) := by decide +kernel
theorem dX7_kernelOf_30 : decode cX7_kernelOf 30 = .ok (.idiv, 1) := by decide +kernel
theorem dX7_kernelOf_31 : decode cX7_kernelOf 31 = .ok (.invokestatic 394, 3) := by decide +kernel
theorem dX7_kernelOf_34 : decode cX7_kernelOf 34 = .ok (.bipush 15, 2) := by decide +kernel
theorem dX7_kernelOf_36 : decode cX7_kernelOf 36 = .ok (.isub, 1) := by decide +kernel
theorem dX7_kernelOf_37 : decode cX7_kernelOf 37 = .ok (.ireturn, 1) := by decide +kernel
theorem dX7_componentOf_0 : decode cX7_componentOf 0 = .ok (.iload_n 0, 1) := by decide +kernel
theorem dX7_componentOf_1 : decode cX7_componentOf 1 = .ok (.bipush 41, 2) := by decide +kernel
theorem dX7_componentOf_3 : decode cX7_componentOf 3 = .ok (.irem, 1) := by decide +kernel
theorem dX7_componentOf_4 : decode cX7_componentOf 4 = .ok (.iload_n 0, 1) := by decide +kernel
theorem dX7_componentOf_5 : decode cX7_componentOf 5 = .ok (.bipush 41, 2) := by decide +kernel
theorem dX7_componentOf_7 : decode cX7_componentOf 7 = .ok (.idiv, 1) := by decide +kernel
theorem dX7_componentOf_8 : decode cX7_componentOf 8 = .ok (.bipush 41, 2) := by decide +kernel
theorem dX7_componentOf_10 : decode cX7_componentOf 10 = .ok (.irem, 1) := by decide +kernel
theorem dX7_componentOf_11 : decode cX7_componentOf 11 = .ok (.iload_n 0, 1) := by decide +kernel
theorem dX7_componentOf_12 : decode cX7_componentOf 12 = .ok (.sipush 1681, 3) := by decide +kernel
theorem dX7_componentOf_15 : decode cX7_componentOf 15 = .ok (.idiv, 1) := by decide +kernel
theorem dX7_componentOf_16 : decode cX7_componentOf 16 = .ok (.bipush 41, 2) := by decide +kernel
theorem dX7_componentOf_18 : decode cX7_componentOf 18 = .ok (.irem, 1) := by decide +kernel
theorem dX7_componentOf_19 : decode cX7_componentOf 19 = .ok (.iload_n 0, 1) := by decide +kernel
theorem dX7_componentOf_20 : decode cX7_componentOf 20 = .ok (.ldc_w 398, 3) := by decide +kernel
theorem dX7_componentOf_23 : decode cX7_componentOf 23 = .ok (.idiv, 1) := by decide +kernel
theorem dX7_componentOf_24 : decode cX7_componentOf 24 = .ok (.bipush 41, 2) := by decide +kernel
theorem dX7_componentOf_26 : decode cX7_componentOf 26 = .ok (.irem, 1) := by decide +kernel
theorem dX7_componentOf_27 : decode cX7_componentOf 27 = .ok (.iload_n 0, 1) := by decide +kernel
theorem dX7_componentOf_28 : decode cX7_componentOf 28 = .ok (.ldc_w 399, 3) := by decide +kernel
theorem dX7_componentOf_31 : decode cX7_componentOf 31 = .ok (.idiv, 1) := by decide +kernel
theorem dX7_componentOf_32 : decode cX7_componentOf 32 = .ok (.invokestatic 394, 3) := by decide +kernel
theorem dX7_componentOf_35 : decode cX7_componentOf 35 = .ok (.istore_n 1, 1) := by decide +kernel
theorem dX7_componentOf_36 : decode cX7_componentOf 36 = .ok (.iload_n 1, 1) := by decide +kernel
theorem dX7_componentOf_37 : decode cX7_componentOf 37 = .ok (.bipush 25, 2) := by decide +kernel
theorem dX7_componentOf_39 : decode cX7_componentOf 39 = .ok (.imul, 1) := by decide +kernel
theorem dX7_componentOf_40 : decode cX7_componentOf 40 = .ok (.iconst 1, 1) := by decide +kernel
theorem dX7_componentOf_41 : decode cX7_componentOf 41 = .ok (.iadd, 1) := by decide +kernel
theorem dX7_componentOf_42 : decode cX7_componentOf 42 = .ok (.iconst 3, 1) := by decide +kernel
theorem dX7_componentOf_43 : decode cX7_componentOf 43 = .ok (.idiv, 1) := by decide +kernel
theorem dX7_componentOf_44 : decode cX7_componentOf 44 = .ok (.ireturn, 1) := by decide +kernel
theorem dX7_threeOf_0 : decode cX7_threeOf 0 = .ok (.iload_n 0, 1) := by decide +kernel
theorem dX7_threeOf_1 : decode cX7_threeOf 1 = .ok (.iload_n 1, 1) := by decide +kernel
theorem dX7_threeOf_2 : decode cX7_threeOf 2 = .ok (.invokestatic 400, 3) := by decide +kernel
theorem dX7_threeOf_5 : decode cX7_threeOf 5 = .ok (.iload_n 2, 1) := by decide +kernel
theorem dX7_threeOf_6 : decode cX7_threeOf 6 = .ok (.iload_n 3, 1) := by decide +kernel
theorem dX7_threeOf_7 : decode cX7_threeOf 7 = .ok (.invokestatic 400, 3) := by decide +kernel
theorem dX7_threeOf_10 : decode cX7_threeOf 10 = .ok (.invokestatic 400, 3) := by decide +kernel
theorem dX7_threeOf_13 : decode cX7_threeOf 13 = .ok (.iload 4, 2) := by decide +kernel
theorem dX7_threeOf_15 : decode cX7_threeOf 15 = .ok (.invokestatic 400, 3) := by decide +kernel
theorem dX7_threeOf_18 : decode cX7_threeOf 18 = .ok (.istore 5, 2) := by decide +kernel
theorem dX7_threeOf_20 : decode cX7_threeOf 20 = .ok (.iload_n 0, 1) := by decide +kernel
theorem dX7_threeOf_21 : decode cX7_threeOf 21 = .ok (.iload_n 1, 1) := by decide +kernel
theorem dX7_threeOf_22 : decode cX7_threeOf 22 = .ok (.invokestatic 405, 3) := by decide +kernel
theorem dX7_threeOf_25 : decode cX7_threeOf 25 = .ok (.iload_n 2, 1) := by decide +kernel
theorem dX7_threeOf_26 : decode cX7_threeOf 26 = .ok (.iload_n 3, 1) := by decide +kernel
theorem dX7_threeOf_27 : decode cX7_threeOf 27 = .ok (.invokestatic 405, 3) := by decide +kernel
theorem dX7_threeOf_30 : decode cX7_threeOf 30 = .ok (.invokestatic 405, 3) := by decide +kernel
theorem dX7_threeOf_33 : decode cX7_threeOf 33 = .ok (.iload 4, 2) := by decide +kernel
theorem dX7_threeOf_35 : decode cX7_threeOf 35 = .ok (.invokestatic 405, 3) := by decide +kernel
theorem dX7_threeOf_38 : decode cX7_threeOf 38 = .ok (.istore 6, 2) := by decide +kernel
theorem dX7_threeOf_40 : decode cX7_threeOf 40 = .ok (.iload_n 0, 1) := by decide +kernel
theorem dX7_threeOf_41 : decode cX7_threeOf 41 = .ok (.iload_n 1, 1) := by decide +kernel
theorem dX7_threeOf_42 : decode cX7_threeOf 42 = .ok (.iadd, 1) := by decide +kernel
theorem dX7_threeOf_43 : decode cX7_threeOf 43 = .ok (.iload_n 2, 1) := by decide +kernel
theorem dX7_threeOf_44 : decode cX7_threeOf 44 = .ok (.iadd, 1) := by decide +kernel
theorem dX7_threeOf_45 : decode cX7_threeOf 45 = .ok (.iload_n 3, 1) := by decide +kernel
theorem dX7_threeOf_46 : decode cX7_threeOf 46 = .ok (.iadd, 1) := by decide +kernel
theorem dX7_threeOf_47 : decode cX7_threeOf 47 = .ok (.iload 4, 2) := by decide +kernel
theorem dX7_threeOf_49 : decode cX7_threeOf 49 = .ok (.iadd, 1) := by decide +kernel
theorem dX7_threeOf_50 : decode cX7_threeOf 50 = .ok (.iload 5, 2) := by decide +kernel
theorem dX7_threeOf_52 : decode cX7_threeOf 52 = .ok (.isub, 1) := by decide +kernel
theorem dX7_threeOf_53 : decode cX7_threeOf 53 = .ok (.iload 6, 2) := by decide +kernel
theorem dX7_threeOf_55 : decode cX7_threeOf 55 = .ok (.isub, 1) := by decide +kernel
theorem dX7_threeOf_56 : decode cX7_threeOf 56 = .ok (.ireturn, 1) := by decide +kernel
theorem dJ9_abs_0f7a4_0 : decode cJ9_abs_0f7a4 0 = .ok (.iload_n 0, 1) := by decide +kernel
theorem dJ9_abs_0f7a4_1 : decode cJ9_abs_0f7a4 1 = .ok (.ifCond .ge 8, 3) := by decide +kernel
theorem dJ9_abs_0f7a4_4 : decode cJ9_abs_0f7a4 4 = .ok (.iload_n 0, 1) := by decide +kernel
theorem dJ9_abs_0f7a4_5 : decode cJ9_abs_0f7a4 5 = .ok (.ineg, 1) := by decide +kernel
theorem dJ9_abs_0f7a4_6 : decode cJ9_abs_0f7a4 6 = .ok (.goto 4, 3) := by decide +kernel
theorem dJ9_abs_0f7a4_9 : decode cJ9_abs_0f7a4 9 = .ok (.iload_n 0, 1) := by decide +kernel
theorem dJ9_abs_0f7a4_10 : decode cJ9_abs_0f7a4 10 = .ok (.ireturn, 1) := by decide +kernel
theorem dJ9_max_7cf53_0 : decode cJ9_max_7cf53 0 = .ok (.iload_n 0, 1) := by decide +kernel
theorem dJ9_max_7cf53_1 : decode cJ9_max_7cf53 1 = .ok (.iload_n 1, 1) := by decide +kernel
theorem dJ9_max_7cf53_2 : decode cJ9_max_7cf53 2 = .ok (.if_icmp .lt 7, 3) := by decide +kernel
theorem dJ9_max_7cf53_5 : decode cJ9_max_7cf53 5 = .ok (.iload_n 0, 1) := by decide +kernel
theorem dJ9_max_7cf53_6 : decode cJ9_max_7cf53 6 = .ok (.goto 4, 3) := by decide +kernel
theorem dJ9_max_7cf53_9 : decode cJ9_max_7cf53 9 = .ok (.iload_n 1, 1) := by decide +kernel
theorem dJ9_max_7cf53_10 : decode cJ9_max_7cf53 10 = .ok (.ireturn, 1) := by decide +kernel
theorem dJ9_min_7cf53_0 : decode cJ9_min_7cf53 0 = .ok (.iload_n 0, 1) := by decide +kernel
theorem dJ9_min_7cf53_1 : decode cJ9_min_7cf53 1 = .ok (.iload_n 1, 1) := by decide +kernel
theorem dJ9_min_7cf53_2 : decode cJ9_min_7cf53 2 = .ok (.if_icmp .gt 7, 3) := by decide +kernel
theorem dJ9_min_7cf53_5 : decode cJ9_min_7cf53 5 = .ok (.iload_n 0, 1) := by decide +kernel
theorem dJ9_min_7cf53_6 : decode cJ9_min_7cf53 6 = .ok (.goto 4, 3) := by decide +kernel
theorem dJ9_min_7cf53_9 : decode cJ9_min_7cf53 9 = .ok (.iload_n 1, 1) := by decide +kernel
theorem dJ9_min_7cf53_10 : decode cJ9_min_7cf53 10 = .ok (.ireturn, 1) := by decide +kernel
theorem dJ7_fill_53178_0 : decode cJ7_fill_53178 0 = .ok (.iconst 0, 1) := by decide +kernel
theorem dJ7_fill_53178_1 : decode cJ7_fill_53178 1 = .ok (.istore_n 2, 1) := by decide +kernel
theorem dJ7_fill_53178_2 : decode cJ7_fill_53178 2 = .ok (.aload_n 0, 1) := by decide +kernel
theorem dJ7_fill_53178_3 : decode cJ7_fill_53178 3 = .ok (.arraylength, 1) := by decide +kernel
theorem dJ7_fill_53178_4 : decode cJ7_fill_53178 4 = .ok (.istore_n 3, 1) := by decide +kernel
theorem dJ7_fill_53178_5 : decode cJ7_fill_53178 5 = .ok (.iload_n 2, 1) := by decide +kernel
theorem dJ7_fill_53178_6 : decode cJ7_fill_53178 6 = .ok (.iload_n 3, 1) := by decide +kernel
theorem dJ7_fill_53178_7 : decode cJ7_fill_53178 7 = .ok (.if_icmp .ge 13, 3) := by decide +kernel
theorem dJ7_fill_53178_10 : decode cJ7_fill_53178 10 = .ok (.aload_n 0, 1) := by decide +kernel
theorem dJ7_fill_53178_11 : decode cJ7_fill_53178 11 = .ok (.iload_n 2, 1) := by decide +kernel
theorem dJ7_fill_53178_12 : decode cJ7_fill_53178 12 = .ok (.iload_n 1, 1) := by decide +kernel
theorem dJ7_fill_53178_13 : decode cJ7_fill_53178 13 = .ok (.iastore, 1) := by decide +kernel
theorem dJ7_fill_53178_14 : decode cJ7_fill_53178 14 = .ok (.iinc 2 1, 3) := by decide +kernel
theorem dJ7_fill_53178_17 : decode cJ7_fill_53178 17 = .ok (.goto (-12), 3) := by decide +kernel
theorem dJ7_fill_53178_20 : decode cJ7_fill_53178 20 = .ok (.return_, 1) := by decide +kernel
theorem dL_tryPart_0 : decode cL_tryPart 0 = .ok (.aload_n 0, 1) := by decide +kernel
theorem dL_tryPart_1 : decode cL_tryPart 1 = .ok (.iload_n 1, 1) := by decide +kernel
theorem dL_tryPart_2 : decode cL_tryPart 2 = .ok (.iload_n 2, 1) := by decide +kernel
theorem dL_tryPart_3 : decode cL_tryPart 3 = .ok (.iload_n 3, 1) := by decide +kernel
theorem dL_tryPart_4 : decode cL_tryPart 4 = .ok (.iload 4, 2) := by decide +kernel
theorem dL_tryPart_6 : decode cL_tryPart 6 = .ok (.invokevirtual 7, 3) := by decide +kernel
theorem dL_tryPart_9 : decode cL_tryPart 9 = .ok (.ireturn, 1) := by decide +kernel
theorem dL_tryPart_10 : decode cL_tryPart 10 = .ok (.astore 5, 2) := by decide +kernel
theorem dL_tryPart_12 : decode cL_tryPart 12 = .ok (.ldc 15, 2) := by decide +kernel
theorem dL_tryPart_14 : decode cL_tryPart 14 = .ok (.ireturn, 1) := by decide +kernel
theorem dL_tryPart_15 : decode cL_tryPart 15 = .ok (.astore 5, 2) := by decide +kernel
theorem dL_tryPart_17 : decode cL_tryPart 17 = .ok (.ldc 18, 2) := by decide +kernel
theorem dL_tryPart_19 : decode cL_tryPart 19 = .ok (.ireturn, 1) := by decide +kernel
theorem dL_tryCall_0 : decode cL_tryCall 0 = .ok (.aload_n 0, 1) := by decide +kernel
theorem dL_tryCall_1 : decode cL_tryCall 1 = .ok (.iload_n 1, 1) := by decide +kernel
theorem dL_tryCall_2 : decode cL_tryCall 2 = .ok (.iload_n 2, 1) := by decide +kernel
theorem dL_tryCall_3 : decode cL_tryCall 3 = .ok (.iload_n 3, 1) := by decide +kernel
theorem dL_tryCall_4 : decode cL_tryCall 4 = .ok (.iload 4, 2) := by decide +kernel
theorem dL_tryCall_6 : decode cL_tryCall 6 = .ok (.invokevirtual 19, 3) := by decide +kernel
theorem dL_tryCall_9 : decode cL_tryCall 9 = .ok (.ireturn, 1) := by decide +kernel
theorem dL_tryCall_10 : decode cL_tryCall 10 = .ok (.astore 5, 2) := by decide +kernel
theorem dL_tryCall_12 : decode cL_tryCall 12 = .ok (.ldc 15, 2) := by decide +kernel
theorem dL_tryCall_14 : decode cL_tryCall 14 = .ok (.ireturn, 1) := by decide +kernel
theorem dL_tryCall_15 : decode cL_tryCall 15 = .ok (.astore 5, 2) := by decide +kernel
theorem dL_tryCall_17 : decode cL_tryCall 17 = .ok (.ldc 18, 2) := by decide +kernel
theorem dL_tryCall_19 : decode cL_tryCall 19 = .ok (.ireturn, 1) := by decide +kernel
theorem dL_tryCall_20 : decode cL_tryCall 20 = .ok (.astore 5, 2) := by decide +kernel
theorem dL_tryCall_22 : decode cL_tryCall 22 = .ok (.ldc 24, 2) := by decide +kernel
theorem dL_tryCall_24 : decode cL_tryCall 24 = .ok (.ireturn, 1) := by decide +kernel
theorem dL_tryIfCalled_0 : decode cL_tryIfCalled 0 = .ok (.aload_n 0, 1) := by decide +kernel
theorem dL_tryIfCalled_1 : decode cL_tryIfCalled 1 = .ok (.iload_n 1, 1) := by decide +kernel
theorem dL_tryIfCalled_2 : decode cL_tryIfCalled 2 = .ok (.iload_n 2, 1) := by decide +kernel
theorem dL_tryIfCalled_3 : decode cL_tryIfCalled 3 = .ok (.iload_n 3, 1) := by decide +kernel
theorem dL_tryIfCalled_4 : decode cL_tryIfCalled 4 = .ok (.iload 4, 2) := by decide +kernel
theorem dL_tryIfCalled_6 : decode cL_tryIfCalled 6 = .ok (.invokevirtual 25, 3) := by decide +kernel
theorem dL_tryIfCalled_9 : decode cL_tryIfCalled 9 = .ok (.ireturn, 1) := by decide +kernel
theorem dL_tryIfCalled_10 : decode cL_tryIfCalled 10 = .ok (.astore 5, 2) := by decide +kernel
theorem dL_tryIfCalled_12 : decode cL_tryIfCalled 12 = .ok (.ldc 15, 2) := by decide +kernel
theorem dL_tryIfCalled_14 : decode cL_tryIfCalled 14 = .ok (.ireturn, 1) := by decide +kernel
theorem dL_tryIfCalled_15 : decode cL_tryIfCalled 15 = .ok (.astore 5, 2) := by decide +kernel
theorem dL_tryIfCalled_17 : decode cL_tryIfCalled 17 = .ok (.ldc 18, 2) := by decide +kernel
theorem dL_tryIfCalled_19 : decode cL_tryIfCalled 19 = .ok (.ireturn, 1) := by decide +kernel
theorem dL_tryIfCalled_20 : decode cL_tryIfCalled 20 = .ok (.astore 5, 2) := by decide +kernel
theorem dL_tryIfCalled_22 : decode cL_tryIfCalled 22 = .ok (.ldc 24, 2) := by decide +kernel
theorem dL_tryIfCalled_24 : decode cL_tryIfCalled 24 = .ok (.ireturn, 1) := by decide +kernel
theorem dL_tryReview_0 : decode cL_tryReview 0 = .ok (.aload_n 0, 1) := by decide +kernel
theorem dL_tryReview_1 : decode cL_tryReview 1 = .ok (.iload_n 1, 1) := by decide +kernel
theorem dL_tryReview_2 : decode cL_tryReview 2 = .ok (.iload_n 2, 1) := by decide +kernel
theorem dL_tryReview_3 : decode cL_tryReview 3 = .ok (.iload_n 3, 1) := by decide +kernel
theorem dL_tryReview_4 : decode cL_tryReview 4 = .ok (.invokevirtual 28, 3) := by decide +kernel
theorem dL_tryReview_7 : decode cL_tryReview 7 = .ok (.ireturn, 1) := by decide +kernel
theorem dL_tryReview_8 : decode cL_tryReview 8 = .ok (.astore 4, 2) := by decide +kernel
theorem dL_tryReview_10 : decode cL_tryReview 10 = .ok (.ldc 15, 2) := by decide +kernel
theorem dL_tryReview_12 : decode cL_tryReview 12 = .ok (.ireturn, 1) := by decide +kernel
theorem dL_tryFall_0 : decode cL_tryFall 0 = .ok (.aload_n 0, 1) := by decide +kernel
theorem dL_tryFall_1 : decode cL_tryFall 1 = .ok (.iload_n 1, 1) := by decide +kernel
theorem dL_tryFall_2 : decode cL_tryFall 2 = .ok (.iload_n 2, 1) := by decide +kernel
theorem dL_tryFall_3 : decode cL_tryFall 3 = .ok (.iload_n 3, 1) := by decide +kernel
theorem dL_tryFall_4 : decode cL_tryFall 4 = .ok (.invokevirtual 32, 3) := by decide +kernel
theorem dL_tryFall_7 : decode cL_tryFall 7 = .ok (.ireturn, 1) := by decide +kernel
theorem dL_tryFall_8 : decode cL_tryFall 8 = .ok (.astore 4, 2) := by decide +kernel
theorem dL_tryFall_10 : decode cL_tryFall 10 = .ok (.ldc 15, 2) := by decide +kernel
theorem dL_tryFall_12 : decode cL_tryFall 12 = .ok (.ireturn, 1) := by decide +kernel
theorem dL_tryScript_0 : decode cL_tryScript 0 = .ok (.aload_n 0, 1) := by decide +kernel
theorem dL_tryScript_1 : decode cL_tryScript 1 = .ok (.iload_n 1, 1) := by decide +kernel
theorem dL_tryScript_2 : decode cL_tryScript 2 = .ok (.lload_n 2, 1) := by decide +kernel
theorem dL_tryScript_3 : decode cL_tryScript 3 = .ok (.invokevirtual 35, 3) := by decide +kernel
theorem dL_tryScript_6 : decode cL_tryScript 6 = .ok (.ireturn, 1) := by decide +kernel
theorem dL_tryScript_7 : decode cL_tryScript 7 = .ok (.astore 4, 2) := by decide +kernel
theorem dL_tryScript_9 : decode cL_tryScript 9 = .ok (.ldc 18, 2) := by decide +kernel
theorem dL_tryScript_11 : decode cL_tryScript 11 = .ok (.ireturn, 1) := by decide +kernel
theorem dL_trySimulate_0 : decode cL_trySimulate 0 = .ok (.aload_n 0, 1) := by decide +kernel
theorem dL_trySimulate_1 : decode cL_trySimulate 1 = .ok (.lload_n 1, 1) := by decide +kernel
theorem dL_trySimulate_2 : decode cL_trySimulate 2 = .ok (.iload_n 3, 1) := by decide +kernel
theorem dL_trySimulate_3 : decode cL_trySimulate 3 = .ok (.invokevirtual 39, 3) := by decide +kernel
theorem dL_trySimulate_6 : decode cL_trySimulate 6 = .ok (.ireturn, 1) := by decide +kernel
theorem dL_trySimulate_7 : decode cL_trySimulate 7 = .ok (.astore 4, 2) := by decide +kernel
theorem dL_trySimulate_9 : decode cL_trySimulate 9 = .ok (.ldc 18, 2) := by decide +kernel
theorem dL_trySimulate_11 : decode cL_trySimulate 11 = .ok (.ireturn, 1) := by decide +kernel
theorem dL_tryAppend_0 : decode cL_tryAppend 0 = .ok (.aload_n 0, 1) := by decide +kernel
theorem dL_tryAppend_1 : decode cL_tryAppend 1 = .ok (.iload_n 1, 1) := by decide +kernel
theorem dL_tryAppend_2 : decode cL_tryAppend 2 = .ok (.invokevirtual 43, 3) := by decide +kernel
theorem dL_tryAppend_5 : decode cL_tryAppend 5 = .ok (.ireturn, 1) := by decide +kernel
theorem dL_tryAppend_6 : decode cL_tryAppend 6 = .ok (.astore_n 2, 1) := by decide +kernel
theorem dL_tryAppend_7 : decode cL_tryAppend 7 = .ok (.ldc 18, 2) := by decide +kernel
theorem dL_tryAppend_9 : decode cL_tryAppend 9 = .ok (.ireturn, 1) := by decide +kernel
theorem dL_tryAppend_10 : decode cL_tryAppend 10 = .ok (.astore_n 2, 1) := by decide +kernel
theorem dL_tryAppend_11 : decode cL_tryAppend 11 = .ok (.ldc 24, 2) := by decide +kernel
theorem dL_tryAppend_13 : decode cL_tryAppend 13 = .ok (.ireturn, 1) := by decide +kernel
theorem dL_tryAbout_0 : decode cL_tryAbout 0 = .ok (.aload_n 0, 1) := by decide +kernel
theorem dL_tryAbout_1 : decode cL_tryAbout 1 = .ok (.iload_n 1, 1) := by decide +kernel
theorem dL_tryAbout_2 : decode cL_tryAbout 2 = .ok (.invokevirtual 47, 3) := by decide +kernel
theorem dL_tryAbout_5 : decode cL_tryAbout 5 = .ok (.ireturn, 1) := by decide +kernel
theorem dL_tryAbout_6 : decode cL_tryAbout 6 = .ok (.astore_n 2, 1) := by decide +kernel
theorem dL_tryAbout_7 : decode cL_tryAbout 7 = .ok (.ldc 18, 2) := by decide +kernel
theorem dL_tryAbout_9 : decode cL_tryAbout 9 = .ok (.ireturn, 1) := by decide +kernel
theorem dL_trySkater_0 : decode cL_trySkater 0 = .ok (.aload_n 0, 1) := by decide +kernel
theorem dL_trySkater_1 : decode cL_trySkater 1 = .ok (.iload_n 1, 1) := by decide +kernel
theorem dL_trySkater_2 : decode cL_trySkater 2 = .ok (.iload_n 2, 1) := by decide +kernel
theorem dL_trySkater_3 : decode cL_trySkater 3 = .ok (.invokevirtual 50, 3) := by decide +kernel
theorem dL_trySkater_6 : decode cL_trySkater 6 = .ok (.ireturn, 1) := by decide +kernel
theorem dL_trySkater_7 : decode cL_trySkater 7 = .ok (.astore_n 3, 1) := by decide +kernel
theorem dL_trySkater_8 : decode cL_trySkater 8 = .ok (.ldc 15, 2) := by decide +kernel
theorem dL_trySkater_10 : decode cL_trySkater 10 = .ok (.ireturn, 1) := by decide +kernel
theorem dL_trySkater_11 : decode cL_trySkater 11 = .ok (.astore_n 3, 1) := by decide +kernel
theorem dL_trySkater_12 : decode cL_trySkater 12 = .ok (.ldc 18, 2) := by decide +kernel
theorem dL_trySkater_14 : decode cL_trySkater 14 = .ok (.ireturn, 1) := by decide +kernel
theorem dL_tryElement_0 : decode cL_tryElement 0 = .ok (.aload_n 0, 1) := by decide +kernel
theorem dL_tryElement_1 : decode cL_tryElement 1 = .ok (.iload_n 1, 1) := by decide +kernel
theorem dL_tryElement_2 : decode cL_tryElement 2 = .ok (.iload_n 2, 1) := by decide +kernel
theorem dL_tryElement_3 : decode cL_tryElement 3 = .ok (.iload_n 3, 1) := by decide +kernel
theorem dL_tryElement_4 : decode cL_tryElement 4 = .ok (.invokevirtual 54, 3) := by decide +kernel
theorem dL_tryElement_7 : decode cL_tryElement 7 = .ok (.ireturn, 1) := by decide +kernel
theorem dL_tryElement_8 : decode cL_tryElement 8 = .ok (.astore 4, 2) := by decide +kernel
theorem dL_tryElement_10 : decode cL_tryElement 10 = .ok (.ldc 15, 2) := by decide +kernel
theorem dL_tryElement_12 : decode cL_tryElement 12 = .ok (.ireturn, 1) := by decide +kernel
theorem dL_tryElement_13 : decode cL_tryElement 13 = .ok (.astore 4, 2) := by decide +kernel
theorem dL_tryElement_15 : decode cL_tryElement 15 = .ok (.ldc 18, 2) := by decide +kernel
theorem dL_tryElement_17 : decode cL_tryElement 17 = .ok (.ireturn, 1) := by decide +kernel
theorem dL_trySetting_0 : decode cL_trySetting 0 = .ok (.aload_n 0, 1) := by decide +kernel
theorem dL_trySetting_1 : decode cL_trySetting 1 = .ok (.iload_n 1, 1) := by decide +kernel
theorem dL_trySetting_2 : decode cL_trySetting 2 = .ok (.invokevirtual 58, 3) := by decide +kernel
theorem dL_trySetting_5 : decode cL_trySetting 5 = .ok (.ireturn, 1) := by decide +kernel
theorem dL_trySetting_6 : decode cL_trySetting 6 = .ok (.astore_n 2, 1) := by decide +kernel
theorem dL_trySetting_7 : decode cL_trySetting 7 = .ok (.ldc 18, 2) := by decide +kernel
theorem dL_trySetting_9 : decode cL_trySetting 9 = .ok (.ireturn, 1) := by decide +kernel
theorem dL_tryAdd_0 : decode cL_tryAdd 0 = .ok (.aload_n 0, 1) := by decide +kernel
theorem dL_tryAdd_1 : decode cL_tryAdd 1 = .ok (.invokevirtual 61, 3) := by decide +kernel
theorem dL_tryAdd_4 : decode cL_tryAdd 4 = .ok (.ireturn, 1) := by decide +kernel
theorem dL_tryAdd_5 : decode cL_tryAdd 5 = .ok (.astore_n 1, 1) := by decide +kernel
theorem dL_tryAdd_6 : decode cL_tryAdd 6 = .ok (.ldc 24, 2) := by decide +kernel
theorem dL_tryAdd_8 : decode cL_tryAdd 8 = .ok (.ireturn, 1) := by decide +kernel
theorem dL_tryProgram_0 : decode cL_tryProgram 0 = .ok (.aload_n 0, 1) := by decide +kernel
theorem dL_tryProgram_1 : decode cL_tryProgram 1 = .ok (.iload_n 1, 1) := by decide +kernel
theorem dL_tryProgram_2 : decode cL_tryProgram 2 = .ok (.invokevirtual 65, 3) := by decide +kernel
theorem dL_tryProgram_5 : decode cL_tryProgram 5 = .ok (.ireturn, 1) := by decide +kernel
theorem dL_tryProgram_6 : decode cL_tryProgram 6 = .ok (.astore_n 2, 1) := by decide +kernel
theorem dL_tryProgram_7 : decode cL_tryProgram 7 = .ok (.ldc 15, 2) := by decide +kernel
theorem dL_tryProgram_9 : decode cL_tryProgram 9 = .ok (.ireturn, 1) := by decide +kernel
theorem dL_tryProgram_10 : decode cL_tryProgram 10 = .ok (.astore_n 2, 1) := by decide +kernel
theorem dL_tryProgram_11 : decode cL_tryProgram 11 = .ok (.ldc 24, 2) := by decide +kernel
theorem dL_tryProgram_13 : decode cL_tryProgram 13 = .ok (.ireturn, 1) := by decide +kernel
theorem dL_tryMark_0 : decode cL_tryMark 0 = .ok (.aload_n 0, 1) := by decide +kernel
theorem dL_tryMark_1 : decode cL_tryMark 1 = .ok (.iload_n 1, 1) := by decide +kernel
theorem dL_tryMark_2 : decode cL_tryMark 2 = .ok (.iload_n 2, 1) := by decide +kernel
theorem dL_tryMark_3 : decode cL_tryMark 3 = .ok (.iload_n 3, 1) := by decide +kernel
theorem dL_tryMark_4 : decode cL_tryMark 4 = .ok (.invokevirtual 68, 3) := by decide +kernel
theorem dL_tryMark_7 : decode cL_tryMark 7 = .ok (.ireturn, 1) := by decide +kernel
theorem dL_tryMark_8 : decode cL_tryMark 8 = .ok (.astore 4, 2) := by decide +kernel
theorem dL_tryMark_10 : decode cL_tryMark 10 = .ok (.ldc 15, 2) := by decide +kernel
theorem dL_tryMark_12 : decode cL_tryMark 12 = .ok (.ireturn, 1) := by decide +kernel
theorem dL_tryMark_13 : decode cL_tryMark 13 = .ok (.astore 4, 2) := by decide +kernel
theorem dL_tryMark_15 : decode cL_tryMark 15 = .ok (.ldc 18, 2) := by decide +kernel
theorem dL_tryMark_17 : decode cL_tryMark 17 = .ok (.ireturn, 1) := by decide +kernel
theorem dL_tryComponent_0 : decode cL_tryComponent 0 = .ok (.aload_n 0, 1) := by decide +kernel
theorem dL_tryComponent_1 : decode cL_tryComponent 1 = .ok (.iload_n 1, 1) := by decide +kernel
theorem dL_tryComponent_2 : decode cL_tryComponent 2 = .ok (.iload_n 2, 1) := by decide +kernel
theorem dL_tryComponent_3 : decode cL_tryComponent 3 = .ok (.iload_n 3, 1) := by decide +kernel
theorem dL_tryComponent_4 : decode cL_tryComponent 4 = .ok (.invokevirtual 71, 3) := by decide +kernel
theorem dL_tryComponent_7 : decode cL_tryComponent 7 = .ok (.ireturn, 1) := by decide +kernel
theorem dL_tryComponent_8 : decode cL_tryComponent 8 = .ok (.astore 4, 2) := by decide +kernel
theorem dL_tryComponent_10 : decode cL_tryComponent 10 = .ok (.ldc 15, 2) := by decide +kernel
theorem dL_tryComponent_12 : decode cL_tryComponent 12 = .ok (.ireturn, 1) := by decide +kernel
theorem dL_tryComponent_13 : decode cL_tryComponent 13 = .ok (.astore 4, 2) := by decide +kernel
theorem dL_tryComponent_15 : decode cL_tryComponent 15 = .ok (.ldc 18, 2) := by decide +kernel
theorem dL_tryComponent_17 : decode cL_tryComponent 17 = .ok (.ireturn, 1) := by decide +kernel
theorem dL_tryPenalty_0 : decode cL_tryPenalty 0 = .ok (.aload_n 0, 1) := by decide +kernel
theorem dL_tryPenalty_1 : decode cL_tryPenalty 1 = .ok (.iload_n 1, 1) := by decide +kernel
theorem dL_tryPenalty_2 : decode cL_tryPenalty 2 = .ok (.iload_n 2, 1) := by decide +kernel
theorem dL_tryPenalty_3 : decode cL_tryPenalty 3 = .ok (.invokevirtual 74, 3) := by decide +kernel
theorem dL_tryPenalty_6 : decode cL_tryPenalty 6 = .ok (.ireturn, 1) := by decide +kernel
theorem dL_tryPenalty_7 : decode cL_tryPenalty 7 = .ok (.astore_n 3, 1) := by decide +kernel
theorem dL_tryPenalty_8 : decode cL_tryPenalty 8 = .ok (.ldc 15, 2) := by decide +kernel
theorem dL_tryPenalty_10 : decode cL_tryPenalty 10 = .ok (.ireturn, 1) := by decide +kernel
theorem dL_tryPenalty_11 : decode cL_tryPenalty 11 = .ok (.astore_n 3, 1) := by decide +kernel
theorem dL_tryPenalty_12 : decode cL_tryPenalty 12 = .ok (.ldc 18, 2) := by decide +kernel
theorem dL_tryPenalty_14 : decode cL_tryPenalty 14 = .ok (.ireturn, 1) := by decide +kernel
theorem dL_tryLay_0 : decode cL_tryLay 0 = .ok (.aload_n 0, 1) := by decide +kernel
theorem dL_tryLay_1 : decode cL_tryLay 1 = .ok (.iload_n 1, 1) := by decide +kernel
theorem dL_tryLay_2 : decode cL_tryLay 2 = .ok (.iload_n 2, 1) := by decide +kernel
theorem dL_tryLay_3 : decode cL_tryLay 3 = .ok (.invokevirtual 77, 3) := by decide +kernel
theorem dL_tryLay_6 : decode cL_tryLay 6 = .ok (.ireturn, 1) := by decide +kernel
theorem dL_tryLay_7 : decode cL_tryLay 7 = .ok (.astore_n 3, 1) := by decide +kernel
theorem dL_tryLay_8 : decode cL_tryLay 8 = .ok (.ldc 18, 2) := by decide +kernel
theorem dL_tryLay_10 : decode cL_tryLay 10 = .ok (.ireturn, 1) := by decide +kernel
theorem dL_tryUndo_0 : decode cL_tryUndo 0 = .ok (.aload_n 0, 1) := by decide +kernel
theorem dL_tryUndo_1 : decode cL_tryUndo 1 = .ok (.invokevirtual 80, 3) := by decide +kernel
theorem dL_tryUndo_4 : decode cL_tryUndo 4 = .ok (.ireturn, 1) := by decide +kernel
theorem dL_tryUndo_5 : decode cL_tryUndo 5 = .ok (.astore_n 1, 1) := by decide +kernel
theorem dL_tryUndo_6 : decode cL_tryUndo 6 = .ok (.ldc 24, 2) := by decide +kernel
theorem dL_tryUndo_8 : decode cL_tryUndo 8 = .ok (.ireturn, 1) := by decide +kernel
theorem dL_tryReplaced_0 : decode cL_tryReplaced 0 = .ok (.aload_n 0, 1) := by decide +kernel
theorem dL_tryReplaced_1 : decode cL_tryReplaced 1 = .ok (.iload_n 1, 1) := by decide +kernel
theorem dL_tryReplaced_2 : decode cL_tryReplaced 2 = .ok (.iload_n 2, 1) := by decide +kernel
theorem dL_tryReplaced_3 : decode cL_tryReplaced 3 = .ok (.invokevirtual 83, 3) := by decide +kernel
theorem dL_tryReplaced_6 : decode cL_tryReplaced 6 = .ok (.ireturn, 1) := by decide +kernel
theorem dL_tryReplaced_7 : decode cL_tryReplaced 7 = .ok (.astore_n 3, 1) := by decide +kernel
theorem dL_tryReplaced_8 : decode cL_tryReplaced 8 = .ok (.ldc 15, 2) := by decide +kernel
theorem dL_tryReplaced_10 : decode cL_tryReplaced 10 = .ok (.ireturn, 1) := by decide +kernel
theorem dL_tryReplaced_11 : decode cL_tryReplaced 11 = .ok (.astore_n 3, 1) := by decide +kernel
theorem dL_tryReplaced_12 : decode cL_tryReplaced 12 = .ok (.ldc 24, 2) := by decide +kernel
theorem dL_tryReplaced_14 : decode cL_tryReplaced 14 = .ok (.ireturn, 1) := by decide +kernel
theorem dL_trySwap_0 : decode cL_trySwap 0 = .ok (.aload_n 0, 1) := by decide +kernel
theorem dL_trySwap_1 : decode cL_trySwap 1 = .ok (.iload_n 1, 1) := by decide +kernel
theorem dL_trySwap_2 : decode cL_trySwap 2 = .ok (.iload_n 2, 1) := by decide +kernel
theorem dL_trySwap_3 : decode cL_trySwap 3 = .ok (.invokevirtual 86, 3) := by decide +kernel
theorem dL_trySwap_6 : decode cL_trySwap 6 = .ok (.ireturn, 1) := by decide +kernel
theorem dL_trySwap_7 : decode cL_trySwap 7 = .ok (.astore_n 3, 1) := by decide +kernel
theorem dL_trySwap_8 : decode cL_trySwap 8 = .ok (.ldc 15, 2) := by decide +kernel
theorem dL_trySwap_10 : decode cL_trySwap 10 = .ok (.ireturn, 1) := by decide +kernel
theorem dL_trySwap_11 : decode cL_trySwap 11 = .ok (.astore_n 3, 1) := by decide +kernel
theorem dL_trySwap_12 : decode cL_trySwap 12 = .ok (.ldc 18, 2) := by decide +kernel
theorem dL_trySwap_14 : decode cL_trySwap 14 = .ok (.ireturn, 1) := by decide +kernel
theorem dL_tryNeeds_0 : decode cL_tryNeeds 0 = .ok (.aload_n 0, 1) := by decide +kernel
theorem dL_tryNeeds_1 : decode cL_tryNeeds 1 = .ok (.iload_n 1, 1) := by decide +kernel
theorem dL_tryNeeds_2 : decode cL_tryNeeds 2 = .ok (.iload_n 2, 1) := by decide +kernel
theorem dL_tryNeeds_3 : decode cL_tryNeeds 3 = .ok (.invokevirtual 89, 3) := by decide +kernel
theorem dL_tryNeeds_6 : decode cL_tryNeeds 6 = .ok (.ireturn, 1) := by decide +kernel
theorem dL_tryNeeds_7 : decode cL_tryNeeds 7 = .ok (.astore_n 3, 1) := by decide +kernel
theorem dL_tryNeeds_8 : decode cL_tryNeeds 8 = .ok (.ldc 15, 2) := by decide +kernel
theorem dL_tryNeeds_10 : decode cL_tryNeeds 10 = .ok (.ireturn, 1) := by decide +kernel
theorem dL_tryBehind_0 : decode cL_tryBehind 0 = .ok (.aload_n 0, 1) := by decide +kernel
theorem dL_tryBehind_1 : decode cL_tryBehind 1 = .ok (.iload_n 1, 1) := by decide +kernel
theorem dL_tryBehind_2 : decode cL_tryBehind 2 = .ok (.invokevirtual 92, 3) := by decide +kernel
theorem dL_tryBehind_5 : decode cL_tryBehind 5 = .ok (.ireturn, 1) := by decide +kernel
theorem dL_tryBehind_6 : decode cL_tryBehind 6 = .ok (.astore_n 2, 1) := by decide +kernel
theorem dL_tryBehind_7 : decode cL_tryBehind 7 = .ok (.ldc 15, 2) := by decide +kernel
theorem dL_tryBehind_9 : decode cL_tryBehind 9 = .ok (.ireturn, 1) := by decide +kernel
theorem dL_tryKeep_0 : decode cL_tryKeep 0 = .ok (.aload_n 0, 1) := by decide +kernel
theorem dL_tryKeep_1 : decode cL_tryKeep 1 = .ok (.iload_n 1, 1) := by decide +kernel
theorem dL_tryKeep_2 : decode cL_tryKeep 2 = .ok (.invokevirtual 95, 3) := by decide +kernel
theorem dL_tryKeep_5 : decode cL_tryKeep 5 = .ok (.ireturn, 1) := by decide +kernel
theorem dL_tryKeep_6 : decode cL_tryKeep 6 = .ok (.astore_n 2, 1) := by decide +kernel
theorem dL_tryKeep_7 : decode cL_tryKeep 7 = .ok (.ldc 15, 2) := by decide +kernel
theorem dL_tryKeep_9 : decode cL_tryKeep 9 = .ok (.ireturn, 1) := by decide +kernel
theorem dL_tryBack_0 : decode cL_tryBack 0 = .ok (.aload_n 0, 1) := by decide +kernel
theorem dL_tryBack_1 : decode cL_tryBack 1 = .ok (.iload_n 1, 1) := by decide +kernel
theorem dL_tryBack_2 : decode cL_tryBack 2 = .ok (.invokevirtual 98, 3) := by decide +kernel
theorem dL_tryBack_5 : decode cL_tryBack 5 = .ok (.ireturn, 1) := by decide +kernel
theorem dL_tryBack_6 : decode cL_tryBack 6 = .ok (.astore_n 2, 1) := by decide +kernel
theorem dL_tryBack_7 : decode cL_tryBack 7 = .ok (.ldc 15, 2) := by decide +kernel
theorem dL_tryBack_9 : decode cL_tryBack 9 = .ok (.ireturn, 1) := by decide +kernel
theorem dL_tryBack_10 : decode cL_tryBack 10 = .ok (.astore_n 2, 1) := by decide +kernel
theorem dL_tryBack_11 : decode cL_tryBack 11 = .ok (.ldc 24, 2) := by decide +kernel
theorem dL_tryBack_13 : decode cL_tryBack 13 = .ok (.ireturn, 1) := by decide +kernel
theorem dL_call_0 : decode cL_call 0 = .ok (.iload_n 1, 1) := by decide +kernel
theorem dL_call_1 : decode cL_call 1 = .ok (.tableswitch 198 0 16 #[83, 89, 95, 102, 111, 117, 122, 128, 137, 146, 153, 160, 165, 172, 179, 186, 192], 83) := by decide +kernel
theorem dL_call_84 : decode cL_call 84 = .ok (.aload_n 0, 1) := by decide +kernel
theorem dL_call_85 : decode cL_call 85 = .ok (.iload_n 2, 1) := by decide +kernel
theorem dL_call_86 : decode cL_call 86 = .ok (.invokestatic 101, 3) := by decide +kernel
theorem dL_call_89 : decode cL_call 89 = .ok (.ireturn, 1) := by decide +kernel
theorem dL_call_90 : decode cL_call 90 = .ok (.aload_n 0, 1) := by decide +kernel
theorem dL_call_91 : decode cL_call 91 = .ok (.iload_n 2, 1) := by decide +kernel
theorem dL_call_92 : decode cL_call 92 = .ok (.invokestatic 107, 3) := by decide +kernel
theorem dL_call_95 : decode cL_call 95 = .ok (.ireturn, 1) := by decide +kernel
theorem dL_call_96 : decode cL_call 96 = .ok (.aload_n 0, 1) := by decide +kernel
theorem dL_call_97 : decode cL_call 97 = .ok (.iload_n 2, 1) := by decide +kernel
theorem dL_call_98 : decode cL_call 98 = .ok (.iload_n 3, 1) := by decide +kernel
theorem dL_call_99 : decode cL_call 99 = .ok (.invokestatic 110, 3) := by decide +kernel
theorem dL_call_102 : decode cL_call 102 = .ok (.ireturn, 1) := by decide +kernel
theorem dL_call_103 : decode cL_call 103 = .ok (.aload_n 0, 1) := by decide +kernel
theorem dL_call_104 : decode cL_call 104 = .ok (.iload_n 2, 1) := by decide +kernel
theorem dL_call_105 : decode cL_call 105 = .ok (.iload_n 3, 1) := by decide +kernel
theorem dL_call_106 : decode cL_call 106 = .ok (.iload 4, 2) := by decide +kernel
theorem dL_call_108 : decode cL_call 108 = .ok (.invokestatic 114, 3) := by decide +kernel
theorem dL_call_111 : decode cL_call 111 = .ok (.ireturn, 1) := by decide +kernel
theorem dL_call_112 : decode cL_call 112 = .ok (.aload_n 0, 1) := by decide +kernel
theorem dL_call_113 : decode cL_call 113 = .ok (.iload_n 2, 1) := by decide +kernel
theorem dL_call_114 : decode cL_call 114 = .ok (.invokestatic 118, 3) := by decide +kernel
theorem dL_call_117 : decode cL_call 117 = .ok (.ireturn, 1) := by decide +kernel
theorem dL_call_118 : decode cL_call 118 = .ok (.aload_n 0, 1) := by decide +kernel
theorem dL_call_119 : decode cL_call 119 = .ok (.invokestatic 121, 3) := by decide +kernel
theorem dL_call_122 : decode cL_call 122 = .ok (.ireturn, 1) := by decide +kernel
theorem dL_call_123 : decode cL_call 123 = .ok (.aload_n 0, 1) := by decide +kernel
theorem dL_call_124 : decode cL_call 124 = .ok (.iload_n 2, 1) := by decide +kernel
theorem dL_call_125 : decode cL_call 125 = .ok (.invokestatic 125, 3) := by decide +kernel
theorem dL_call_128 : decode cL_call 128 = .ok (.ireturn, 1) := by decide +kernel
theorem dL_call_129 : decode cL_call 129 = .ok (.aload_n 0, 1) := by decide +kernel
theorem dL_call_130 : decode cL_call 130 = .ok (.iload_n 2, 1) := by decide +kernel
theorem dL_call_131 : decode cL_call 131 = .ok (.iload_n 3, 1) := by decide +kernel
theorem dL_call_132 : decode cL_call 132 = .ok (.iload 4, 2) := by decide +kernel
theorem dL_call_134 : decode cL_call 134 = .ok (.invokestatic 128, 3) := by decide +kernel
theorem dL_call_137 : decode cL_call 137 = .ok (.ireturn, 1) := by decide +kernel
theorem dL_call_138 : decode cL_call 138 = .ok (.aload_n 0, 1) := by decide +kernel
theorem dL_call_139 : decode cL_call 139 = .ok (.iload_n 2, 1) := by decide +kernel
theorem dL_call_140 : decode cL_call 140 = .ok (.iload_n 3, 1) := by decide +kernel
theorem dL_call_141 : decode cL_call 141 = .ok (.iload 4, 2) := by decide +kernel
theorem dL_call_143 : decode cL_call 143 = .ok (.invokestatic 131, 3) := by decide +kernel
theorem dL_call_146 : decode cL_call 146 = .ok (.ireturn, 1) := by decide +kernel
theorem dL_call_147 : decode cL_call 147 = .ok (.aload_n 0, 1) := by decide +kernel
theorem dL_call_148 : decode cL_call 148 = .ok (.iload_n 2, 1) := by decide +kernel
theorem dL_call_149 : decode cL_call 149 = .ok (.iload_n 3, 1) := by decide +kernel
theorem dL_call_150 : decode cL_call 150 = .ok (.invokestatic 134, 3) := by decide +kernel
theorem dL_call_153 : decode cL_call 153 = .ok (.ireturn, 1) := by decide +kernel
theorem dL_call_154 : decode cL_call 154 = .ok (.aload_n 0, 1) := by decide +kernel
theorem dL_call_155 : decode cL_call 155 = .ok (.iload_n 2, 1) := by decide +kernel
theorem dL_call_156 : decode cL_call 156 = .ok (.iload_n 3, 1) := by decide +kernel
theorem dL_call_157 : decode cL_call 157 = .ok (.invokestatic 137, 3) := by decide +kernel
theorem dL_call_160 : decode cL_call 160 = .ok (.ireturn, 1) := by decide +kernel
theorem dL_call_161 : decode cL_call 161 = .ok (.aload_n 0, 1) := by decide +kernel
theorem dL_call_162 : decode cL_call 162 = .ok (.invokestatic 140, 3) := by decide +kernel
theorem dL_call_165 : decode cL_call 165 = .ok (.ireturn, 1) := by decide +kernel
theorem dL_call_166 : decode cL_call 166 = .ok (.aload_n 0, 1) := by decide +kernel
theorem dL_call_167 : decode cL_call 167 = .ok (.iload_n 2, 1) := by decide +kernel
theorem dL_call_168 : decode cL_call 168 = .ok (.iload_n 3, 1) := by decide +kernel
theorem dL_call_169 : decode cL_call 169 = .ok (.invokestatic 143, 3) := by decide +kernel
theorem dL_call_172 : decode cL_call 172 = .ok (.ireturn, 1) := by decide +kernel
theorem dL_call_173 : decode cL_call 173 = .ok (.aload_n 0, 1) := by decide +kernel
theorem dL_call_174 : decode cL_call 174 = .ok (.iload_n 2, 1) := by decide +kernel
theorem dL_call_175 : decode cL_call 175 = .ok (.iload_n 3, 1) := by decide +kernel
theorem dL_call_176 : decode cL_call 176 = .ok (.invokestatic 146, 3) := by decide +kernel
theorem dL_call_179 : decode cL_call 179 = .ok (.ireturn, 1) := by decide +kernel
theorem dL_call_180 : decode cL_call 180 = .ok (.aload_n 0, 1) := by decide +kernel
theorem dL_call_181 : decode cL_call 181 = .ok (.iload_n 2, 1) := by decide +kernel
theorem dL_call_182 : decode cL_call 182 = .ok (.iload_n 3, 1) := by decide +kernel
theorem dL_call_183 : decode cL_call 183 = .ok (.invokestatic 149, 3) := by decide +kernel
theorem dL_call_186 : decode cL_call 186 = .ok (.ireturn, 1) := by decide +kernel
theorem dL_call_187 : decode cL_call 187 = .ok (.aload_n 0, 1) := by decide +kernel
theorem dL_call_188 : decode cL_call 188 = .ok (.iload_n 2, 1) := by decide +kernel
theorem dL_call_189 : decode cL_call 189 = .ok (.invokestatic 152, 3) := by decide +kernel
theorem dL_call_192 : decode cL_call 192 = .ok (.ireturn, 1) := by decide +kernel
theorem dL_call_193 : decode cL_call 193 = .ok (.aload_n 0, 1) := by decide +kernel
theorem dL_call_194 : decode cL_call 194 = .ok (.iload_n 2, 1) := by decide +kernel
theorem dL_call_195 : decode cL_call 195 = .ok (.invokestatic 155, 3) := by decide +kernel
theorem dL_call_198 : decode cL_call 198 = .ok (.ireturn, 1) := by decide +kernel
theorem dL_call_199 : decode cL_call 199 = .ok (.aload_n 0, 1) := by decide +kernel
theorem dL_call_200 : decode cL_call 200 = .ok (.iload_n 2, 1) := by decide +kernel
theorem dL_call_201 : decode cL_call 201 = .ok (.invokestatic 158, 3) := by decide +kernel
theorem dL_call_204 : decode cL_call 204 = .ok (.ireturn, 1) := by decide +kernel
theorem dL_cell_0 : decode cL_cell 0 = .ok (.iload_n 1, 1) := by decide +kernel
theorem dL_cell_1 : decode cL_cell 1 = .ok (.aload_n 0, 1) := by decide +kernel
theorem dL_cell_2 : decode cL_cell 2 = .ok (.arraylength, 1) := by decide +kernel
theorem dL_cell_3 : decode cL_cell 3 = .ok (.if_icmp .ge 9, 3) := by decide +kernel
theorem dL_cell_6 : decode cL_cell 6 = .ok (.aload_n 0, 1) := by decide +kernel
theorem dL_cell_7 : decode cL_cell 7 = .ok (.iload_n 1, 1) := by decide +kernel
theorem dL_cell_8 : decode cL_cell 8 = .ok (.iaload, 1) := by decide +kernel
theorem dL_cell_9 : decode cL_cell 9 = .ok (.goto 13, 3) := by decide +kernel
theorem dL_cell_12 : decode cL_cell 12 = .ok (.ldc 161, 2) := by decide +kernel
theorem dL_cell_14 : decode cL_cell 14 = .ok (.iload_n 1, 1) := by decide +kernel
theorem dL_cell_15 : decode cL_cell 15 = .ok (.iconst 3, 1) := by decide +kernel
theorem dL_cell_16 : decode cL_cell 16 = .ok (.iadd, 1) := by decide +kernel
theorem dL_cell_17 : decode cL_cell 17 = .ok (.imul, 1) := by decide +kernel
theorem dL_cell_18 : decode cL_cell 18 = .ok (.sipush 10909, 3) := by decide +kernel
theorem dL_cell_21 : decode cL_cell 21 = .ok (.iadd, 1) := by decide +kernel
theorem dL_cell_22 : decode cL_cell 22 = .ok (.ldc 162, 2) := by decide +kernel
theorem dL_cell_24 : decode cL_cell 24 = .ok (.iand, 1) := by decide +kernel
theorem dL_cell_25 : decode cL_cell 25 = .ok (.ireturn, 1) := by decide +kernel
theorem dL_thrown_0 : decode cL_thrown 0 = .ok (.iload_n 0, 1) := by decide +kernel
theorem dL_thrown_1 : decode cL_thrown 1 = .ok (.ldc 15, 2) := by decide +kernel
theorem dL_thrown_3 : decode cL_thrown 3 = .ok (.if_icmp .eq 15, 3) := by decide +kernel
theorem dL_thrown_6 : decode cL_thrown 6 = .ok (.iload_n 0, 1) := by decide +kernel
theorem dL_thrown_7 : decode cL_thrown 7 = .ok (.ldc 18, 2) := by decide +kernel
theorem dL_thrown_9 : decode cL_thrown 9 = .ok (.if_icmp .eq 9, 3) := by decide +kernel
theorem dL_thrown_12 : decode cL_thrown 12 = .ok (.iload_n 0, 1) := by decide +kernel
theorem dL_thrown_13 : decode cL_thrown 13 = .ok (.ldc 24, 2) := by decide +kernel
theorem dL_thrown_15 : decode cL_thrown 15 = .ok (.if_icmp .ne 7, 3) := by decide +kernel
theorem dL_thrown_18 : decode cL_thrown 18 = .ok (.iconst 1, 1) := by decide +kernel
theorem dL_thrown_19 : decode cL_thrown 19 = .ok (.goto 4, 3) := by decide +kernel
theorem dL_thrown_22 : decode cL_thrown 22 = .ok (.iconst 0, 1) := by decide +kernel
theorem dL_thrown_23 : decode cL_thrown 23 = .ok (.ireturn, 1) := by decide +kernel
theorem dL_refuses_0 : decode cL_refuses 0 = .ok (.aload_n 0, 1) := by decide +kernel
theorem dL_refuses_1 : decode cL_refuses 1 = .ok (.iconst 1, 1) := by decide +kernel
theorem dL_refuses_2 : decode cL_refuses 2 = .ok (.iconst 0, 1) := by decide +kernel
theorem dL_refuses_3 : decode cL_refuses 3 = .ok (.iconst 0, 1) := by decide +kernel
theorem dL_refuses_4 : decode cL_refuses 4 = .ok (.iconst 0, 1) := by decide +kernel
theorem dL_refuses_5 : decode cL_refuses 5 = .ok (.invokestatic 163, 3) := by decide +kernel
theorem dL_refuses_8 : decode cL_refuses 8 = .ok (.iload_n 1, 1) := by decide +kernel
theorem dL_refuses_9 : decode cL_refuses 9 = .ok (.bipush 50, 2) := by decide +kernel
theorem dL_refuses_11 : decode cL_refuses 11 = .ok (.irem, 1) := by decide +kernel
theorem dL_refuses_12 : decode cL_refuses 12 = .ok (.iadd, 1) := by decide +kernel
theorem dL_refuses_13 : decode cL_refuses 13 = .ok (.istore_n 2, 1) := by decide +kernel
theorem dL_refuses_14 : decode cL_refuses 14 = .ok (.aload_n 0, 1) := by decide +kernel
theorem dL_refuses_15 : decode cL_refuses 15 = .ok (.iconst 0, 1) := by decide +kernel
theorem dL_refuses_16 : decode cL_refuses 16 = .ok (.iload_n 1, 1) := by decide +kernel
theorem dL_refuses_17 : decode cL_refuses 17 = .ok (.iconst 2, 1) := by decide +kernel
theorem dL_refuses_18 : decode cL_refuses 18 = .ok (.irem, 1) := by decide +kernel
theorem dL_refuses_19 : decode cL_refuses 19 = .ok (.ifCond .ne 12, 3) := by decide +kernel
theorem dL_refuses_22 : decode cL_refuses 22 = .ok (.iconst (-1), 1) := by decide +kernel
theorem dL_refuses_23 : decode cL_refuses 23 = .ok (.iload_n 1, 1) := by decide +kernel
theorem dL_refuses_24 : decode cL_refuses 24 = .ok (.bipush 9, 2) := by decide +kernel
theorem dL_refuses_26 : decode cL_refuses 26 = .ok (.irem, 1) := by decide +kernel
theorem dL_refuses_27 : decode cL_refuses 27 = .ok (.isub, 1) := by decide +kernel
theorem dL_refuses_28 : decode cL_refuses 28 = .ok (.goto 11, 3) := by decide +kernel
theorem dL_refuses_31 : decode cL_refuses 31 = .ok (.sipush 256, 3) := by decide +kernel
theorem dL_refuses_34 : decode cL_refuses 34 = .ok (.iload_n 1, 1) := by decide +kernel
theorem dL_refuses_35 : decode cL_refuses 35 = .ok (.bipush 9, 2) := by decide +kernel
theorem dL_refuses_37 : decode cL_refuses 37 = .ok (.irem, 1) := by decide +kernel
theorem dL_refuses_38 : decode cL_refuses 38 = .ok (.iadd, 1) := by decide +kernel
theorem dL_refuses_39 : decode cL_refuses 39 = .ok (.iconst 0, 1) := by decide +kernel
theorem dL_refuses_40 : decode cL_refuses 40 = .ok (.iconst 0, 1) := by decide +kernel
theorem dL_refuses_41 : decode cL_refuses 41 = .ok (.invokestatic 163, 3) := by decide +kernel
theorem dL_refuses_44 : decode cL_refuses 44 = .ok (.ldc 18, 2) := by decide +kernel
theorem dL_refuses_46 : decode cL_refuses 46 = .ok (.if_icmp .ne 515, 3) := by decide +kernel
theorem dL_refuses_49 : decode cL_refuses 49 = .ok (.aload_n 0, 1) := by decide +kernel
theorem dL_refuses_50 : decode cL_refuses 50 = .ok (.iconst 1, 1) := by decide +kernel
theorem dL_refuses_51 : decode cL_refuses 51 = .ok (.bipush 6, 2) := by decide +kernel
theorem dL_refuses_53 : decode cL_refuses 53 = .ok (.iload_n 1, 1) := by decide +kernel
theorem dL_refuses_54 : decode cL_refuses 54 = .ok (.bipush 50, 2) := by decide +kernel
theorem dL_refuses_56 : decode cL_refuses 56 = .ok (.irem, 1) := by decide +kernel
theorem dL_refuses_57 : decode cL_refuses 57 = .ok (.iadd, 1) := by decide +kernel
theorem dL_refuses_58 : decode cL_refuses 58 = .ok (.iconst 0, 1) := by decide +kernel
theorem dL_refuses_59 : decode cL_refuses 59 = .ok (.iconst 0, 1) := by decide +kernel
theorem dL_refuses_60 : decode cL_refuses 60 = .ok (.invokestatic 163, 3) := by decide +kernel
theorem dL_refuses_63 : decode cL_refuses 63 = .ok (.ldc 18, 2) := by decide +kernel
theorem dL_refuses_65 : decode cL_refuses 65 = .ok (.if_icmp .ne 496, 3) := by decide +kernel
theorem dL_refuses_68 : decode cL_refuses 68 = .ok (.aload_n 0, 1) := by decide +kernel
theorem dL_refuses_69 : decode cL_refuses 69 = .ok (.iconst 2, 1) := by decide +kernel
theorem dL_refuses_70 : decode cL_refuses 70 = .ok (.iload_n 2, 1) := by decide +kernel
theorem dL_refuses_71 : decode cL_refuses 71 = .ok (.bipush 9, 2) := by decide +kernel
theorem dL_refuses_73 : decode cL_refuses 73 = .ok (.iconst 0, 1) := by decide +kernel
theorem dL_refuses_74 : decode cL_refuses 74 = .ok (.invokestatic 163, 3) := by decide +kernel
theorem dL_refuses_77 : decode cL_refuses 77 = .ok (.ldc 15, 2) := by decide +kernel
theorem dL_refuses_79 : decode cL_refuses 79 = .ok (.if_icmp .ne 482, 3) := by decide +kernel
theorem dL_refuses_82 : decode cL_refuses 82 = .ok (.aload_n 0, 1) := by decide +kernel
theorem dL_refuses_83 : decode cL_refuses 83 = .ok (.iconst 2, 1) := by decide +kernel
theorem dL_refuses_84 : decode cL_refuses 84 = .ok (.iconst 0, 1) := by decide +kernel
theorem dL_refuses_85 : decode cL_refuses 85 = .ok (.bipush 8, 2) := by decide +kernel
theorem dL_refuses_87 : decode cL_refuses 87 = .ok (.iload_n 1, 1) := by decide +kernel
theorem dL_refuses_88 : decode cL_refuses 88 = .ok (.bipush 9, 2) := by decide +kernel
theorem dL_refuses_90 : decode cL_refuses 90 = .ok (.irem, 1) := by decide +kernel
theorem dL_refuses_91 : decode cL_refuses 91 = .ok (.iadd, 1) := by decide +kernel
theorem dL_refuses_92 : decode cL_refuses 92 = .ok (.iconst 0, 1) := by decide +kernel
theorem dL_refuses_93 : decode cL_refuses 93 = .ok (.invokestatic 163, 3) := by decide +kernel
theorem dL_refuses_96 : decode cL_refuses 96 = .ok (.ldc 18, 2) := by decide +kernel
theorem dL_refuses_98 : decode cL_refuses 98 = .ok (.if_icmp .ne 463, 3) := by decide +kernel
theorem dL_refuses_101 : decode cL_refuses 101 = .ok (.aload_n 0, 1) := by decide +kernel
theorem dL_refuses_102 : decode cL_refuses 102 = .ok (.iconst 3, 1) := by decide +kernel
theorem dL_refuses_103 : decode cL_refuses 103 = .ok (.iconst 0, 1) := by decide +kernel
theorem dL_refuses_104 : decode cL_refuses 104 = .ok (.bipush 12, 2) := by decide +kernel
theorem dL_refuses_106 : decode cL_refuses 106 = .ok (.iload_n 1, 1) := by decide +kernel
theorem dL_refuses_107 : decode cL_refuses 107 = .ok (.bipush 9, 2) := by decide +kernel
theorem dL_refuses_109 : decode cL_refuses 109 = .ok (.irem, 1) := by decide +kernel
theorem dL_refuses_110 : decode cL_refuses 110 = .ok (.iadd, 1) := by decide +kernel
theorem dL_refuses_111 : decode cL_refuses 111 = .ok (.bipush 9, 2) := by decide +kernel
theorem dL_refuses_113 : decode cL_refuses 113 = .ok (.invokestatic 163, 3) := by decide +kernel
theorem dL_refuses_116 : decode cL_refuses 116 = .ok (.ldc 15, 2) := by decide +kernel
theorem dL_refuses_118 : decode cL_refuses 118 = .ok (.if_icmp .ne 443, 3) := by decide +kernel
theorem dL_refuses_121 : decode cL_refuses 121 = .ok (.aload_n 0, 1) := by decide +kernel
theorem dL_refuses_122 : decode cL_refuses 122 = .ok (.iconst 3, 1) := by decide +kernel
theorem dL_refuses_123 : decode cL_refuses 123 = .ok (.iload_n 2, 1) := by decide +kernel
theorem dL_refuses_124 : decode cL_refuses 124 = .ok (.iconst 0, 1) := by decide +kernel
theorem dL_refuses_125 : decode cL_refuses 125 = .ok (.bipush 9, 2) := by decide +kernel
theorem dL_refuses_127 : decode cL_refuses 127 = .ok (.invokestatic 163, 3) := by decide +kernel
theorem dL_refuses_130 : decode cL_refuses 130 = .ok (.ldc 15, 2) := by decide +kernel
theorem dL_refuses_132 : decode cL_refuses 132 = .ok (.if_icmp .ne 429, 3) := by decide +kernel
theorem dL_refuses_135 : decode cL_refuses 135 = .ok (.aload_n 0, 1) := by decide +kernel
theorem dL_refuses_136 : decode cL_refuses 136 = .ok (.iconst 0, 1) := by decide +kernel
theorem dL_refuses_137 : decode cL_refuses 137 = .ok (.iload_n 1, 1) := by decide +kernel
theorem dL_refuses_138 : decode cL_refuses 138 = .ok (.bipush 12, 2) := by decide +kernel
theorem dL_refuses_140 : decode cL_refuses 140 = .ok (.irem, 1) := by decide +kernel
theorem dL_refuses_141 : decode cL_refuses 141 = .ok (.iconst 3, 1) := by decide +kernel
theorem dL_refuses_142 : decode cL_refuses 142 = .ok (.iload_n 1, 1) := by decide +kernel
theorem dL_refuses_143 : decode cL_refuses 143 = .ok (.bipush 9, 2) := by decide +kernel
theorem dL_refuses_145 : decode cL_refuses 145 = .ok (.irem, 1) := by decide +kernel
theorem dL_refuses_146 : decode cL_refuses 146 = .ok (.iadd, 1) := by decide +kernel
theorem dL_refuses_147 : decode cL_refuses 147 = .ok (.bipush 9, 2) := by decide +kernel
theorem dL_refuses_149 : decode cL_refuses 149 = .ok (.invokestatic 166, 3) := by decide +kernel
theorem dL_refuses_152 : decode cL_refuses 152 = .ok (.ldc 15, 2) := by decide +kernel
theorem dL_refuses_154 : decode cL_refuses 154 = .ok (.if_icmp .ne 407, 3) := by decide +kernel
theorem dL_refuses_157 : decode cL_refuses 157 = .ok (.aload_n 0, 1) := by decide +kernel
theorem dL_refuses_158 : decode cL_refuses 158 = .ok (.iconst 4, 1) := by decide +kernel
theorem dL_refuses_159 : decode cL_refuses 159 = .ok (.iconst 5, 1) := by decide +kernel
theorem dL_refuses_160 : decode cL_refuses 160 = .ok (.iload_n 1, 1) := by decide +kernel
theorem dL_refuses_161 : decode cL_refuses 161 = .ok (.bipush 9, 2) := by decide +kernel
theorem dL_refuses_163 : decode cL_refuses 163 = .ok (.irem, 1) := by decide +kernel
theorem dL_refuses_164 : decode cL_refuses 164 = .ok (.iadd, 1) := by decide +kernel
theorem dL_refuses_165 : decode cL_refuses 165 = .ok (.iconst 0, 1) := by decide +kernel
theorem dL_refuses_166 : decode cL_refuses 166 = .ok (.iconst 0, 1) := by decide +kernel
theorem dL_refuses_167 : decode cL_refuses 167 = .ok (.invokestatic 163, 3) := by decide +kernel
theorem dL_refuses_170 : decode cL_refuses 170 = .ok (.ldc 18, 2) := by decide +kernel
theorem dL_refuses_172 : decode cL_refuses 172 = .ok (.if_icmp .ne 389, 3) := by decide +kernel
theorem dL_refuses_175 : decode cL_refuses 175 = .ok (.aload_n 0, 1) := by decide +kernel
theorem dL_refuses_176 : decode cL_refuses 176 = .ok (.bipush 6, 2) := by decide +kernel
theorem dL_refuses_178 : decode cL_refuses 178 = .ok (.iload_n 2, 1) := by decide +kernel
theorem dL_refuses_179 : decode cL_refuses 179 = .ok (.iconst 0, 1) := by decide +kernel
theorem dL_refuses_180 : decode cL_refuses 180 = .ok (.iconst 0, 1) := by decide +kernel
theorem dL_refuses_181 : decode cL_refuses 181 = .ok (.invokestatic 163, 3) := by decide +kernel
theorem dL_refuses_184 : decode cL_refuses 184 = .ok (.ldc 15, 2) := by decide +kernel
theorem dL_refuses_186 : decode cL_refuses 186 = .ok (.if_icmp .ne 375, 3) := by decide +kernel
theorem dL_refuses_189 : decode cL_refuses 189 = .ok (.aload_n 0, 1) := by decide +kernel
theorem dL_refuses_190 : decode cL_refuses 190 = .ok (.bipush 7, 2) := by decide +kernel
theorem dL_refuses_192 : decode cL_refuses 192 = .ok (.iconst 0, 1) := by decide +kernel
theorem dL_refuses_193 : decode cL_refuses 193 = .ok (.bipush 12, 2) := by decide +kernel
theorem dL_refuses_195 : decode cL_refuses 195 = .ok (.iload_n 1, 1) := by decide +kernel
theorem dL_refuses_196 : decode cL_refuses 196 = .ok (.bipush 9, 2) := by decide +kernel
theorem dL_refuses_198 : decode cL_refuses 198 = .ok (.irem, 1) := by decide +kernel
theorem dL_refuses_199 : decode cL_refuses 199 = .ok (.iadd, 1) := by decide +kernel
theorem dL_refuses_200 : decode cL_refuses 200 = .ok (.iconst (-1), 1) := by decide +kernel
theorem dL_refuses_201 : decode cL_refuses 201 = .ok (.invokestatic 163, 3) := by decide +kernel
theorem dL_refuses_204 : decode cL_refuses 204 = .ok (.ldc 15, 2) := by decide +kernel
theorem dL_refuses_206 : decode cL_refuses 206 = .ok (.if_icmp .ne 355, 3) := by decide +kernel
theorem dL_refuses_209 : decode cL_refuses 209 = .ok (.aload_n 0, 1) := by decide +kernel
theorem dL_refuses_210 : decode cL_refuses 210 = .ok (.bipush 8, 2) := by decide +kernel
theorem dL_refuses_212 : decode cL_refuses 212 = .ok (.iconst 0, 1) := by decide +kernel
theorem dL_refuses_213 : decode cL_refuses 213 = .ok (.iconst 3, 1) := by decide +kernel
theorem dL_refuses_214 : decode cL_refuses 214 = .ok (.iload_n 1, 1) := by decide +kernel
theorem dL_refuses_215 : decode cL_refuses 215 = .ok (.bipush 9, 2) := by decide +kernel
theorem dL_refuses_217 : decode cL_refuses 217 = .ok (.irem, 1) := by decide +kernel
theorem dL_refuses_218 : decode cL_refuses 218 = .ok (.iadd, 1) := by decide +kernel
theorem dL_refuses_219 : decode cL_refuses 219 = .ok (.iconst (-1), 1) := by decide +kernel
theorem dL_refuses_220 : decode cL_refuses 220 = .ok (.invokestatic 163, 3) := by decide +kernel
theorem dL_refuses_223 : decode cL_refuses 223 = .ok (.ldc 15, 2) := by decide +kernel
theorem dL_refuses_225 : decode cL_refuses 225 = .ok (.if_icmp .ne 336, 3) := by decide +kernel
theorem dL_refuses_228 : decode cL_refuses 228 = .ok (.aload_n 0, 1) := by decide +kernel
theorem dL_refuses_229 : decode cL_refuses 229 = .ok (.bipush 8, 2) := by decide +kernel
theorem dL_refuses_231 : decode cL_refuses 231 = .ok (.iconst 0, 1) := by decide +kernel
theorem dL_refuses_232 : decode cL_refuses 232 = .ok (.iload_n 1, 1) := by decide +kernel
theorem dL_refuses_233 : decode cL_refuses 233 = .ok (.iconst 3, 1) := by decide +kernel
theorem dL_refuses_234 : decode cL_refuses 234 = .ok (.irem, 1) := by decide +kernel
theorem dL_refuses_235 : decode cL_refuses 235 = .ok (.ldc 169, 2) := by decide +kernel
theorem dL_refuses_237 : decode cL_refuses 237 = .ok (.iload_n 1, 1) := by decide +kernel
theorem dL_refuses_238 : decode cL_refuses 238 = .ok (.iadd, 1) := by decide +kernel
theorem dL_refuses_239 : decode cL_refuses 239 = .ok (.invokestatic 163, 3) := by decide +kernel
theorem dL_refuses_242 : decode cL_refuses 242 = .ok (.ldc 18, 2) := by decide +kernel
theorem dL_refuses_244 : decode cL_refuses 244 = .ok (.if_icmp .ne 317, 3) := by decide +kernel
theorem dL_refuses_247 : decode cL_refuses 247 = .ok (.aload_n 0, 1) := by decide +kernel
theorem dL_refuses_248 : decode cL_refuses 248 = .ok (.iconst 0, 1) := by decide +kernel
theorem dL_refuses_249 : decode cL_refuses 249 = .ok (.iload_n 1, 1) := by decide +kernel
theorem dL_refuses_250 : decode cL_refuses 250 = .ok (.bipush 12, 2) := by decide +kernel
theorem dL_refuses_252 : decode cL_refuses 252 = .ok (.irem, 1) := by decide +kernel
theorem dL_refuses_253 : decode cL_refuses 253 = .ok (.iconst 3, 1) := by decide +kernel
theorem dL_refuses_254 : decode cL_refuses 254 = .ok (.bipush 9, 2) := by decide +kernel
theorem dL_refuses_256 : decode cL_refuses 256 = .ok (.invokestatic 170, 3) := by decide +kernel
theorem dL_refuses_259 : decode cL_refuses 259 = .ok (.ldc 15, 2) := by decide +kernel
theorem dL_refuses_261 : decode cL_refuses 261 = .ok (.if_icmp .ne 300, 3) := by decide +kernel
theorem dL_refuses_264 : decode cL_refuses 264 = .ok (.aload_n 0, 1) := by decide +kernel
theorem dL_refuses_265 : decode cL_refuses 265 = .ok (.iload_n 2, 1) := by decide +kernel
theorem dL_refuses_266 : decode cL_refuses 266 = .ok (.iconst 0, 1) := by decide +kernel
theorem dL_refuses_267 : decode cL_refuses 267 = .ok (.iconst 0, 1) := by decide +kernel
theorem dL_refuses_268 : decode cL_refuses 268 = .ok (.bipush 9, 2) := by decide +kernel
theorem dL_refuses_270 : decode cL_refuses 270 = .ok (.invokestatic 173, 3) := by decide +kernel
theorem dL_refuses_273 : decode cL_refuses 273 = .ok (.ldc 15, 2) := by decide +kernel
theorem dL_refuses_275 : decode cL_refuses 275 = .ok (.if_icmp .ne 286, 3) := by decide +kernel
theorem dL_refuses_278 : decode cL_refuses 278 = .ok (.aload_n 0, 1) := by decide +kernel
theorem dL_refuses_279 : decode cL_refuses 279 = .ok (.iconst 0, 1) := by decide +kernel
theorem dL_refuses_280 : decode cL_refuses 280 = .ok (.bipush 12, 2) := by decide +kernel
theorem dL_refuses_282 : decode cL_refuses 282 = .ok (.iload_n 1, 1) := by decide +kernel
theorem dL_refuses_283 : decode cL_refuses 283 = .ok (.bipush 9, 2) := by decide +kernel
theorem dL_refuses_285 : decode cL_refuses 285 = .ok (.irem, 1) := by decide +kernel
theorem dL_refuses_286 : decode cL_refuses 286 = .ok (.iadd, 1) := by decide +kernel
theorem dL_refuses_287 : decode cL_refuses 287 = .ok (.iconst 1, 1) := by decide +kernel
theorem dL_refuses_288 : decode cL_refuses 288 = .ok (.invokestatic 176, 3) := by decide +kernel
theorem dL_refuses_291 : decode cL_refuses 291 = .ok (.ldc 15, 2) := by decide +kernel
theorem dL_refuses_293 : decode cL_refuses 293 = .ok (.if_icmp .ne 268, 3) := by decide +kernel
theorem dL_refuses_296 : decode cL_refuses 296 = .ok (.aload_n 0, 1) := by decide +kernel
theorem dL_refuses_297 : decode cL_refuses 297 = .ok (.iload_n 2, 1) := by decide +kernel
theorem dL_refuses_298 : decode cL_refuses 298 = .ok (.iconst 0, 1) := by decide +kernel
theorem dL_refuses_299 : decode cL_refuses 299 = .ok (.iconst 1, 1) := by decide +kernel
theorem dL_refuses_300 : decode cL_refuses 300 = .ok (.invokestatic 180, 3) := by decide +kernel
theorem dL_refuses_303 : decode cL_refuses 303 = .ok (.ldc 15, 2) := by decide +kernel
theorem dL_refuses_305 : decode cL_refuses 305 = .ok (.if_icmp .ne 256, 3) := by decide +kernel
theorem dL_refuses_308 : decode cL_refuses 308 = .ok (.aload_n 0, 1) := by decide +kernel
theorem dL_refuses_309 : decode cL_refuses 309 = .ok (.bipush 9, 2) := by decide +kernel
theorem dL_refuses_311 : decode cL_refuses 311 = .ok (.iload_n 2, 1) := by decide +kernel
theorem dL_refuses_312 : decode cL_refuses 312 = .ok (.bipush 10, 2) := by decide +kernel
theorem dL_refuses_314 : decode cL_refuses 314 = .ok (.iconst 0, 1) := by decide +kernel
theorem dL_refuses_315 : decode cL_refuses 315 = .ok (.invokestatic 163, 3) := by decide +kernel
theorem dL_refuses_318 : decode cL_refuses 318 = .ok (.ldc 15, 2) := by decide +kernel
theorem dL_refuses_320 : decode cL_refuses 320 = .ok (.if_icmp .ne 241, 3) := by decide +kernel
theorem dL_refuses_323 : decode cL_refuses 323 = .ok (.aload_n 0, 1) := by decide +kernel
theorem dL_refuses_324 : decode cL_refuses 324 = .ok (.bipush 9, 2) := by decide +kernel
theorem dL_refuses_326 : decode cL_refuses 326 = .ok (.iconst 0, 1) := by decide +kernel
theorem dL_refuses_327 : decode cL_refuses 327 = .ok (.bipush 10, 2) := by decide +kernel
theorem dL_refuses_329 : decode cL_refuses 329 = .ok (.iload_n 1, 1) := by decide +kernel
theorem dL_refuses_330 : decode cL_refuses 330 = .ok (.bipush 9, 2) := by decide +kernel
theorem dL_refuses_332 : decode cL_refuses 332 = .ok (.irem, 1) := by decide +kernel
theorem dL_refuses_333 : decode cL_refuses 333 = .ok (.iadd, 1) := by decide +kernel
theorem dL_refuses_334 : decode cL_refuses 334 = .ok (.iconst 0, 1) := by decide +kernel
theorem dL_refuses_335 : decode cL_refuses 335 = .ok (.invokestatic 163, 3) := by decide +kernel
theorem dL_refuses_338 : decode cL_refuses 338 = .ok (.ldc 18, 2) := by decide +kernel
theorem dL_refuses_340 : decode cL_refuses 340 = .ok (.if_icmp .ne 221, 3) := by decide +kernel
theorem dL_refuses_343 : decode cL_refuses 343 = .ok (.aload_n 0, 1) := by decide +kernel
theorem dL_refuses_344 : decode cL_refuses 344 = .ok (.bipush 10, 2) := by decide +kernel
theorem dL_refuses_346 : decode cL_refuses 346 = .ok (.iload_n 1, 1) := by decide +kernel
theorem dL_refuses_347 : decode cL_refuses 347 = .ok (.iconst 5, 1) := by decide +kernel
theorem dL_refuses_348 : decode cL_refuses 348 = .ok (.irem, 1) := by decide +kernel
theorem dL_refuses_349 : decode cL_refuses 349 = .ok (.sipush 301, 3) := by decide +kernel
theorem dL_refuses_352 : decode cL_refuses 352 = .ok (.iload_n 1, 1) := by decide +kernel
theorem dL_refuses_353 : decode cL_refuses 353 = .ok (.bipush 9, 2) := by decide +kernel
theorem dL_refuses_355 : decode cL_refuses 355 = .ok (.irem, 1) := by decide +kernel
theorem dL_refuses_356 : decode cL_refuses 356 = .ok (.iadd, 1) := by decide +kernel
theorem dL_refuses_357 : decode cL_refuses 357 = .ok (.iconst 0, 1) := by decide +kernel
theorem dL_refuses_358 : decode cL_refuses 358 = .ok (.invokestatic 163, 3) := by decide +kernel
theorem dL_refuses_361 : decode cL_refuses 361 = .ok (.ldc 18, 2) := by decide +kernel
theorem dL_refuses_363 : decode cL_refuses 363 = .ok (.if_icmp .ne 198, 3) := by decide +kernel
theorem dL_refuses_366 : decode cL_refuses 366 = .ok (.aload_n 0, 1) := by decide +kernel
theorem dL_refuses_367 : decode cL_refuses 367 = .ok (.bipush 10, 2) := by decide +kernel
theorem dL_refuses_369 : decode cL_refuses 369 = .ok (.iconst 5, 1) := by decide +kernel
theorem dL_refuses_370 : decode cL_refuses 370 = .ok (.iload_n 1, 1) := by decide +kernel
theorem dL_refuses_371 : decode cL_refuses 371 = .ok (.bipush 9, 2) := by decide +kernel
theorem dL_refuses_373 : decode cL_refuses 373 = .ok (.irem, 1) := by decide +kernel
theorem dL_refuses_374 : decode cL_refuses 374 = .ok (.iadd, 1) := by decide +kernel
theorem dL_refuses_375 : decode cL_refuses 375 = .ok (.bipush 50, 2) := by decide +kernel
theorem dL_refuses_377 : decode cL_refuses 377 = .ok (.iconst 0, 1) := by decide +kernel
theorem dL_refuses_378 : decode cL_refuses 378 = .ok (.invokestatic 163, 3) := by decide +kernel
theorem dL_refuses_381 : decode cL_refuses 381 = .ok (.ldc 18, 2) := by decide +kernel
theorem dL_refuses_383 : decode cL_refuses 383 = .ok (.if_icmp .ne 178, 3) := by decide +kernel
theorem dL_refuses_386 : decode cL_refuses 386 = .ok (.aload_n 0, 1) := by decide +kernel
theorem dL_refuses_387 : decode cL_refuses 387 = .ok (.bipush 12, 2) := by decide +kernel
theorem dL_refuses_389 : decode cL_refuses 389 = .ok (.iconst 0, 1) := by decide +kernel
theorem dL_refuses_390 : decode cL_refuses 390 = .ok (.bipush 12, 2) := by decide +kernel
theorem dL_refuses_392 : decode cL_refuses 392 = .ok (.iload_n 1, 1) := by decide +kernel
theorem dL_refuses_393 : decode cL_refuses 393 = .ok (.bipush 9, 2) := by decide +kernel
theorem dL_refuses_395 : decode cL_refuses 395 = .ok (.irem, 1) := by decide +kernel
theorem dL_refuses_396 : decode cL_refuses 396 = .ok (.iadd, 1) := by decide +kernel
theorem dL_refuses_397 : decode cL_refuses 397 = .ok (.iconst 0, 1) := by decide +kernel
theorem dL_refuses_398 : decode cL_refuses 398 = .ok (.invokestatic 163, 3) := by decide +kernel
theorem dL_refuses_401 : decode cL_refuses 401 = .ok (.ldc 15, 2) := by decide +kernel
theorem dL_refuses_403 : decode cL_refuses 403 = .ok (.if_icmp .ne 158, 3) := by decide +kernel
theorem dL_refuses_406 : decode cL_refuses 406 = .ok (.aload_n 0, 1) := by decide +kernel
theorem dL_refuses_407 : decode cL_refuses 407 = .ok (.bipush 13, 2) := by decide +kernel
theorem dL_refuses_409 : decode cL_refuses 409 = .ok (.iload_n 2, 1) := by decide +kernel
theorem dL_refuses_410 : decode cL_refuses 410 = .ok (.bipush 9, 2) := by decide +kernel
theorem dL_refuses_412 : decode cL_refuses 412 = .ok (.iconst 0, 1) := by decide +kernel
theorem dL_refuses_413 : decode cL_refuses 413 = .ok (.invokestatic 163, 3) := by decide +kernel
theorem dL_refuses_416 : decode cL_refuses 416 = .ok (.ldc 15, 2) := by decide +kernel
theorem dL_refuses_418 : decode cL_refuses 418 = .ok (.if_icmp .ne 143, 3) := by decide +kernel
theorem dL_refuses_421 : decode cL_refuses 421 = .ok (.aload_n 0, 1) := by decide +kernel
theorem dL_refuses_422 : decode cL_refuses 422 = .ok (.bipush 13, 2) := by decide +kernel
theorem dL_refuses_424 : decode cL_refuses 424 = .ok (.iconst 0, 1) := by decide +kernel
theorem dL_refuses_425 : decode cL_refuses 425 = .ok (.iconst 3, 1) := by decide +kernel
theorem dL_refuses_426 : decode cL_refuses 426 = .ok (.iload_n 1, 1) := by decide +kernel
theorem dL_refuses_427 : decode cL_refuses 427 = .ok (.bipush 9, 2) := by decide +kernel
theorem dL_refuses_429 : decode cL_refuses 429 = .ok (.irem, 1) := by decide +kernel
theorem dL_refuses_430 : decode cL_refuses 430 = .ok (.iadd, 1) := by decide +kernel
theorem dL_refuses_431 : decode cL_refuses 431 = .ok (.iconst 0, 1) := by decide +kernel
theorem dL_refuses_432 : decode cL_refuses 432 = .ok (.invokestatic 163, 3) := by decide +kernel
theorem dL_refuses_435 : decode cL_refuses 435 = .ok (.ldc 18, 2) := by decide +kernel
theorem dL_refuses_437 : decode cL_refuses 437 = .ok (.if_icmp .ne 124, 3) := by decide +kernel
theorem dL_refuses_440 : decode cL_refuses 440 = .ok (.aload_n 0, 1) := by decide +kernel
theorem dL_refuses_441 : decode cL_refuses 441 = .ok (.bipush 14, 2) := by decide +kernel
theorem dL_refuses_443 : decode cL_refuses 443 = .ok (.iconst 0, 1) := by decide +kernel
theorem dL_refuses_444 : decode cL_refuses 444 = .ok (.bipush 12, 2) := by decide +kernel
theorem dL_refuses_446 : decode cL_refuses 446 = .ok (.iload_n 1, 1) := by decide +kernel
theorem dL_refuses_447 : decode cL_refuses 447 = .ok (.bipush 9, 2) := by decide +kernel
theorem dL_refuses_449 : decode cL_refuses 449 = .ok (.irem, 1) := by decide +kernel
theorem dL_refuses_450 : decode cL_refuses 450 = .ok (.iadd, 1) := by decide +kernel
theorem dL_refuses_451 : decode cL_refuses 451 = .ok (.iconst 0, 1) := by decide +kernel
theorem dL_refuses_452 : decode cL_refuses 452 = .ok (.invokestatic 163, 3) := by decide +kernel
theorem dL_refuses_455 : decode cL_refuses 455 = .ok (.ldc 15, 2) := by decide +kernel
theorem dL_refuses_457 : decode cL_refuses 457 = .ok (.if_icmp .ne 104, 3) := by decide +kernel
theorem dL_refuses_460 : decode cL_refuses 460 = .ok (.aload_n 0, 1) := by decide +kernel
theorem dL_refuses_461 : decode cL_refuses 461 = .ok (.bipush 15, 2) := by decide +kernel
theorem dL_refuses_463 : decode cL_refuses 463 = .ok (.iload_n 2, 1) := by decide +kernel
theorem dL_refuses_464 : decode cL_refuses 464 = .ok (.iconst 0, 1) := by decide +kernel
theorem dL_refuses_465 : decode cL_refuses 465 = .ok (.iconst 0, 1) := by decide +kernel
theorem dL_refuses_466 : decode cL_refuses 466 = .ok (.invokestatic 163, 3) := by decide +kernel
theorem dL_refuses_469 : decode cL_refuses 469 = .ok (.ldc 15, 2) := by decide +kernel
theorem dL_refuses_471 : decode cL_refuses 471 = .ok (.if_icmp .ne 90, 3) := by decide +kernel
theorem dL_refuses_474 : decode cL_refuses 474 = .ok (.aload_n 0, 1) := by decide +kernel
theorem dL_refuses_475 : decode cL_refuses 475 = .ok (.bipush 16, 2) := by decide +kernel
theorem dL_refuses_477 : decode cL_refuses 477 = .ok (.iconst 2, 1) := by decide +kernel
theorem dL_refuses_478 : decode cL_refuses 478 = .ok (.iload_n 1, 1) := by decide +kernel
theorem dL_refuses_479 : decode cL_refuses 479 = .ok (.bipush 50, 2) := by decide +kernel
theorem dL_refuses_481 : decode cL_refuses 481 = .ok (.irem, 1) := by decide +kernel
theorem dL_refuses_482 : decode cL_refuses 482 = .ok (.iadd, 1) := by decide +kernel
theorem dL_refuses_483 : decode cL_refuses 483 = .ok (.iconst 0, 1) := by decide +kernel
theorem dL_refuses_484 : decode cL_refuses 484 = .ok (.iconst 0, 1) := by decide +kernel
theorem dL_refuses_485 : decode cL_refuses 485 = .ok (.invokestatic 163, 3) := by decide +kernel
theorem dL_refuses_488 : decode cL_refuses 488 = .ok (.ldc 15, 2) := by decide +kernel
theorem dL_refuses_490 : decode cL_refuses 490 = .ok (.if_icmp .ne 71, 3) := by decide +kernel
theorem dL_refuses_493 : decode cL_refuses 493 = .ok (.aload_n 0, 1) := by decide +kernel
theorem dL_refuses_494 : decode cL_refuses 494 = .ok (.bipush 17, 2) := by decide +kernel
theorem dL_refuses_496 : decode cL_refuses 496 = .ok (.iconst (-1), 1) := by decide +kernel
theorem dL_refuses_497 : decode cL_refuses 497 = .ok (.iload_n 1, 1) := by decide +kernel
theorem dL_refuses_498 : decode cL_refuses 498 = .ok (.bipush 9, 2) := by decide +kernel
theorem dL_refuses_500 : decode cL_refuses 500 = .ok (.irem, 1) := by decide +kernel
theorem dL_refuses_501 : decode cL_refuses 501 = .ok (.isub, 1) := by decide +kernel
theorem dL_refuses_502 : decode cL_refuses 502 = .ok (.iconst 0, 1) := by decide +kernel
theorem dL_refuses_503 : decode cL_refuses 503 = .ok (.iconst 0, 1) := by decide +kernel
theorem dL_refuses_504 : decode cL_refuses 504 = .ok (.invokestatic 163, 3) := by decide +kernel
theorem dL_refuses_507 : decode cL_refuses 507 = .ok (.ldc 15, 2) := by decide +kernel
theorem dL_refuses_509 : decode cL_refuses 509 = .ok (.if_icmp .ne 52, 3) := by decide +kernel
theorem dL_refuses_512 : decode cL_refuses 512 = .ok (.aload_n 0, 1) := by decide +kernel
theorem dL_refuses_513 : decode cL_refuses 513 = .ok (.iconst 0, 1) := by decide +kernel
theorem dL_refuses_514 : decode cL_refuses 514 = .ok (.lconst 0, 1) := by decide +kernel
theorem dL_refuses_515 : decode cL_refuses 515 = .ok (.invokestatic 183, 3) := by decide +kernel
theorem dL_refuses_518 : decode cL_refuses 518 = .ok (.ldc 18, 2) := by decide +kernel
theorem dL_refuses_520 : decode cL_refuses 520 = .ok (.if_icmp .ne 41, 3) := by decide +kernel
theorem dL_refuses_523 : decode cL_refuses 523 = .ok (.aload_n 0, 1) := by decide +kernel
theorem dL_refuses_524 : decode cL_refuses 524 = .ok (.iconst 1, 1) := by decide +kernel
theorem dL_refuses_525 : decode cL_refuses 525 = .ok (.ldc2_w 187, 3) := by decide +kernel
theorem dL_refuses_528 : decode cL_refuses 528 = .ok (.iload_n 1, 1) := by decide +kernel
theorem dL_refuses_529 : decode cL_refuses 529 = .ok (.i2l, 1) := by decide +kernel
theorem dL_refuses_530 : decode cL_refuses 530 = .ok (.ladd, 1) := by decide +kernel
theorem dL_refuses_531 : decode cL_refuses 531 = .ok (.invokestatic 183, 3) := by decide +kernel
theorem dL_refuses_534 : decode cL_refuses 534 = .ok (.ldc 18, 2) := by decide +kernel
theorem dL_refuses_536 : decode cL_refuses 536 = .ok (.if_icmp .ne 25, 3) := by decide +kernel
theorem dL_refuses_539 : decode cL_refuses 539 = .ok (.aload_n 0, 1) := by decide +kernel
theorem dL_refuses_540 : decode cL_refuses 540 = .ok (.iload_n 1, 1) := by decide +kernel
theorem dL_refuses_541 : decode cL_refuses 541 = .ok (.i2l, 1) := by decide +kernel
theorem dL_refuses_542 : decode cL_refuses 542 = .ok (.bipush 61, 2) := by decide +kernel
theorem dL_refuses_544 : decode cL_refuses 544 = .ok (.iload_n 1, 1) := by decide +kernel
theorem dL_refuses_545 : decode cL_refuses 545 = .ok (.bipush 9, 2) := by decide +kernel
theorem dL_refuses_547 : decode cL_refuses 547 = .ok (.irem, 1) := by decide +kernel
theorem dL_refuses_548 : decode cL_refuses 548 = .ok (.iadd, 1) := by decide +kernel
theorem dL_refuses_549 : decode cL_refuses 549 = .ok (.invokestatic 189, 3) := by decide +kernel
theorem dL_refuses_552 : decode cL_refuses 552 = .ok (.ldc 18, 2) := by decide +kernel
theorem dL_refuses_554 : decode cL_refuses 554 = .ok (.if_icmp .ne 7, 3) := by decide +kernel
theorem dL_refuses_557 : decode cL_refuses 557 = .ok (.iconst 1, 1) := by decide +kernel
theorem dL_refuses_558 : decode cL_refuses 558 = .ok (.goto 4, 3) := by decide +kernel
theorem dL_refuses_561 : decode cL_refuses 561 = .ok (.iconst 0, 1) := by decide +kernel
theorem dL_refuses_562 : decode cL_refuses 562 = .ok (.ireturn, 1) := by decide +kernel
theorem dL_holds_0 : decode cL_holds 0 = .ok (.aload_n 0, 1) := by decide +kernel
theorem dL_holds_1 : decode cL_holds 1 = .ok (.iconst 1, 1) := by decide +kernel
theorem dL_holds_2 : decode cL_holds 2 = .ok (.iconst 0, 1) := by decide +kernel
theorem dL_holds_3 : decode cL_holds 3 = .ok (.iconst 0, 1) := by decide +kernel
theorem dL_holds_4 : decode cL_holds 4 = .ok (.iconst 0, 1) := by decide +kernel
theorem dL_holds_5 : decode cL_holds 5 = .ok (.invokestatic 163, 3) := by decide +kernel
theorem dL_holds_8 : decode cL_holds 8 = .ok (.istore_n 2, 1) := by decide +kernel
theorem dL_holds_9 : decode cL_holds 9 = .ok (.iconst (-1), 1) := by decide +kernel
theorem dL_holds_10 : decode cL_holds 10 = .ok (.istore_n 3, 1) := by decide +kernel
theorem dL_holds_11 : decode cL_holds 11 = .ok (.iconst 0, 1) := by decide +kernel
theorem dL_holds_12 : decode cL_holds 12 = .ok (.istore 4, 2) := by decide +kernel
theorem dL_holds_14 : decode cL_holds 14 = .ok (.iconst 0, 1) := by decide +kernel
theorem dL_holds_15 : decode cL_holds 15 = .ok (.istore 5, 2) := by decide +kernel
theorem dL_holds_17 : decode cL_holds 17 = .ok (.iconst 0, 1) := by decide +kernel
theorem dL_holds_18 : decode cL_holds 18 = .ok (.istore 6, 2) := by decide +kernel
theorem dL_holds_20 : decode cL_holds 20 = .ok (.iconst 0, 1) := by decide +kernel
theorem dL_holds_21 : decode cL_holds 21 = .ok (.istore 7, 2) := by decide +kernel
theorem dL_holds_23 : decode cL_holds 23 = .ok (.iconst 0, 1) := by decide +kernel
theorem dL_holds_24 : decode cL_holds 24 = .ok (.istore 8, 2) := by decide +kernel
