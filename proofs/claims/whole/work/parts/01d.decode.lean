theorem dX7_element_168 : decode cX7_element 168 = .ok (.iaload, 1) := by decide +kernel
theorem dX7_element_169 : decode cX7_element 169 = .ok (.aload_n 0, 1) := by decide +kernel
theorem dX7_element_170 : decode cX7_element 170 = .ok (.getfield 41, 3) := by decide +kernel
theorem dX7_element_173 : decode cX7_element 173 = .ok (.getfield 186, 3) := by decide +kernel
theorem dX7_element_176 : decode cX7_element 176 = .ok (.iload_n 2, 1) := by decide +kernel
theorem dX7_element_177 : decode cX7_element 177 = .ok (.iaload, 1) := by decide +kernel
theorem dX7_element_178 : decode cX7_element 178 = .ok (.iadd, 1) := by decide +kernel
theorem dX7_element_179 : decode cX7_element 179 = .ok (.ireturn, 1) := by decide +kernel
theorem dX7_element_180 : decode cX7_element 180 = .ok (.aload 4, 2) := by decide +kernel
theorem dX7_element_182 : decode cX7_element 182 = .ok (.getfield 189, 3) := by decide +kernel
theorem dX7_element_185 : decode cX7_element 185 = .ok (.iload_n 2, 1) := by decide +kernel
theorem dX7_element_186 : decode cX7_element 186 = .ok (.iaload, 1) := by decide +kernel
theorem dX7_element_187 : decode cX7_element 187 = .ok (.ireturn, 1) := by decide +kernel
theorem dX7_element_188 : decode cX7_element 188 = .ok (.aload 4, 2) := by decide +kernel
theorem dX7_element_190 : decode cX7_element 190 = .ok (.getfield 192, 3) := by decide +kernel
theorem dX7_element_193 : decode cX7_element 193 = .ok (.iload_n 2, 1) := by decide +kernel
theorem dX7_element_194 : decode cX7_element 194 = .ok (.iaload, 1) := by decide +kernel
theorem dX7_element_195 : decode cX7_element 195 = .ok (.ireturn, 1) := by decide +kernel
theorem dX7_element_196 : decode cX7_element 196 = .ok (.aload_n 0, 1) := by decide +kernel
theorem dX7_element_197 : decode cX7_element 197 = .ok (.getfield 41, 3) := by decide +kernel
theorem dX7_element_200 : decode cX7_element 200 = .ok (.getfield 195, 3) := by decide +kernel
theorem dX7_element_203 : decode cX7_element 203 = .ok (.iload_n 2, 1) := by decide +kernel
theorem dX7_element_204 : decode cX7_element 204 = .ok (.iaload, 1) := by decide +kernel
theorem dX7_element_205 : decode cX7_element 205 = .ok (.ireturn, 1) := by decide +kernel
theorem dX7_part_0 : decode cX7_part 0 = .ok (.aload_n 0, 1) := by decide +kernel
theorem dX7_part_1 : decode cX7_part 1 = .ok (.getfield 10, 3) := by decide +kernel
theorem dX7_part_4 : decode cX7_part 4 = .ok (.iload_n 1, 1) := by decide +kernel
theorem dX7_part_5 : decode cX7_part 5 = .ok (.iload_n 2, 1) := by decide +kernel
theorem dX7_part_6 : decode cX7_part 6 = .ok (.iload_n 3, 1) := by decide +kernel
theorem dX7_part_7 : decode cX7_part 7 = .ok (.invokevirtual 198, 3) := by decide +kernel
theorem dX7_part_10 : decode cX7_part 10 = .ok (.ifCond .ne 13, 3) := by decide +kernel
theorem dX7_part_13 : decode cX7_part 13 = .ok (.new 126, 3) := by decide +kernel
theorem dX7_part_16 : decode cX7_part 16 = .ok (.dup, 1) := by decide +kernel
theorem dX7_part_17 : decode cX7_part 17 = .ok (.ldc 202, 2) := by decide +kernel
theorem dX7_part_19 : decode cX7_part 19 = .ok (.invokespecial 130, 3) := by decide +kernel
theorem dX7_part_22 : decode cX7_part 22 = .ok (.athrow, 1) := by decide +kernel
theorem dX7_part_23 : decode cX7_part 23 = .ok (.iload 4, 2) := by decide +kernel
theorem dX7_part_25 : decode cX7_part 25 = .ok (.ifCond .lt 9, 3) := by decide +kernel
theorem dX7_part_28 : decode cX7_part 28 = .ok (.iload 4, 2) := by decide +kernel
theorem dX7_part_30 : decode cX7_part 30 = .ok (.iconst 4, 1) := by decide +kernel
theorem dX7_part_31 : decode cX7_part 31 = .ok (.if_icmp .le 13, 3) := by decide +kernel
theorem dX7_part_34 : decode cX7_part 34 = .ok (.new 69, 3) := by decide +kernel
theorem dX7_part_37 : decode cX7_part 37 = .ok (.dup, 1) := by decide +kernel
theorem dX7_part_38 : decode cX7_part 38 = .ok (.ldc 204, 2) := by decide +kernel
theorem dX7_part_40 : decode cX7_part 40 = .ok (.invokespecial 73, 3) := by decide +kernel
theorem dX7_part_43 : decode cX7_part 43 = .ok (.athrow, 1) := by decide +kernel
theorem dX7_part_44 : decode cX7_part 44 = .ok (.aload_n 0, 1) := by decide +kernel
theorem dX7_part_45 : decode cX7_part 45 = .ok (.getfield 10, 3) := by decide +kernel
theorem dX7_part_48 : decode cX7_part 48 = .ok (.getfield 133, 3) := by decide +kernel
theorem dX7_part_51 : decode cX7_part 51 = .ok (.iload_n 1, 1) := by decide +kernel
theorem dX7_part_52 : decode cX7_part 52 = .ok (.aaload, 1) := by decide +kernel
theorem dX7_part_53 : decode cX7_part 53 = .ok (.astore 5, 2) := by decide +kernel
theorem dX7_part_55 : decode cX7_part 55 = .ok (.iconst 3, 1) := by decide +kernel
theorem dX7_part_56 : decode cX7_part 56 = .ok (.iload_n 2, 1) := by decide +kernel
theorem dX7_part_57 : decode cX7_part 57 = .ok (.imul, 1) := by decide +kernel
theorem dX7_part_58 : decode cX7_part 58 = .ok (.iload_n 3, 1) := by decide +kernel
theorem dX7_part_59 : decode cX7_part 59 = .ok (.iadd, 1) := by decide +kernel
theorem dX7_part_60 : decode cX7_part 60 = .ok (.istore 6, 2) := by decide +kernel
theorem dX7_part_62 : decode cX7_part 62 = .ok (.iload 4, 2) := by decide +kernel
theorem dX7_part_64 : decode cX7_part 64 = .ok (.tableswitch 86 0 3 #[32, 41, 50, 59], 32) := by decide +kernel
theorem dX7_part_96 : decode cX7_part 96 = .ok (.aload 5, 2) := by decide +kernel
theorem dX7_part_98 : decode cX7_part 98 = .ok (.getfield 206, 3) := by decide +kernel
theorem dX7_part_101 : decode cX7_part 101 = .ok (.iload 6, 2) := by decide +kernel
theorem dX7_part_103 : decode cX7_part 103 = .ok (.iaload, 1) := by decide +kernel
theorem dX7_part_104 : decode cX7_part 104 = .ok (.ireturn, 1) := by decide +kernel
theorem dX7_part_105 : decode cX7_part 105 = .ok (.aload 5, 2) := by decide +kernel
theorem dX7_part_107 : decode cX7_part 107 = .ok (.getfield 209, 3) := by decide +kernel
theorem dX7_part_110 : decode cX7_part 110 = .ok (.iload 6, 2) := by decide +kernel
theorem dX7_part_112 : decode cX7_part 112 = .ok (.iaload, 1) := by decide +kernel
theorem dX7_part_113 : decode cX7_part 113 = .ok (.ireturn, 1) := by decide +kernel
theorem dX7_part_114 : decode cX7_part 114 = .ok (.aload 5, 2) := by decide +kernel
theorem dX7_part_116 : decode cX7_part 116 = .ok (.getfield 212, 3) := by decide +kernel
theorem dX7_part_119 : decode cX7_part 119 = .ok (.iload 6, 2) := by decide +kernel
theorem dX7_part_121 : decode cX7_part 121 = .ok (.iaload, 1) := by decide +kernel
theorem dX7_part_122 : decode cX7_part 122 = .ok (.ireturn, 1) := by decide +kernel
theorem dX7_part_123 : decode cX7_part 123 = .ok (.aload_n 0, 1) := by decide +kernel
theorem dX7_part_124 : decode cX7_part 124 = .ok (.getfield 41, 3) := by decide +kernel
theorem dX7_part_127 : decode cX7_part 127 = .ok (.aload 5, 2) := by decide +kernel
theorem dX7_part_129 : decode cX7_part 129 = .ok (.aload_n 0, 1) := by decide +kernel
theorem dX7_part_130 : decode cX7_part 130 = .ok (.getfield 10, 3) := by decide +kernel
theorem dX7_part_133 : decode cX7_part 133 = .ok (.getfield 137, 3) := by decide +kernel
theorem dX7_part_136 : decode cX7_part 136 = .ok (.invokevirtual 141, 3) := by decide +kernel
theorem dX7_part_139 : decode cX7_part 139 = .ok (.aload_n 0, 1) := by decide +kernel
theorem dX7_part_140 : decode cX7_part 140 = .ok (.getfield 41, 3) := by decide +kernel
theorem dX7_part_143 : decode cX7_part 143 = .ok (.getfield 215, 3) := by decide +kernel
theorem dX7_part_146 : decode cX7_part 146 = .ok (.iload 6, 2) := by decide +kernel
theorem dX7_part_148 : decode cX7_part 148 = .ok (.iaload, 1) := by decide +kernel
theorem dX7_part_149 : decode cX7_part 149 = .ok (.ireturn, 1) := by decide +kernel
theorem dX7_part_150 : decode cX7_part 150 = .ok (.aload_n 0, 1) := by decide +kernel
theorem dX7_part_151 : decode cX7_part 151 = .ok (.getfield 41, 3) := by decide +kernel
theorem dX7_part_154 : decode cX7_part 154 = .ok (.aload 5, 2) := by decide +kernel
theorem dX7_part_156 : decode cX7_part 156 = .ok (.aload_n 0, 1) := by decide +kernel
theorem dX7_part_157 : decode cX7_part 157 = .ok (.getfield 10, 3) := by decide +kernel
theorem dX7_part_160 : decode cX7_part 160 = .ok (.getfield 137, 3) := by decide +kernel
theorem dX7_part_163 : decode cX7_part 163 = .ok (.invokevirtual 141, 3) := by decide +kernel
theorem dX7_part_166 : decode cX7_part 166 = .ok (.aload_n 0, 1) := by decide +kernel
theorem dX7_part_167 : decode cX7_part 167 = .ok (.getfield 41, 3) := by decide +kernel
theorem dX7_part_170 : decode cX7_part 170 = .ok (.getfield 218, 3) := by decide +kernel
theorem dX7_part_173 : decode cX7_part 173 = .ok (.iload 6, 2) := by decide +kernel
theorem dX7_part_175 : decode cX7_part 175 = .ok (.iaload, 1) := by decide +kernel
theorem dX7_part_176 : decode cX7_part 176 = .ok (.ireturn, 1) := by decide +kernel
theorem dX7_setting_0 : decode cX7_setting 0 = .ok (.iload_n 1, 1) := by decide +kernel
theorem dX7_setting_1 : decode cX7_setting 1 = .ok (.ifCond .lt 8, 3) := by decide +kernel
theorem dX7_setting_4 : decode cX7_setting 4 = .ok (.iload_n 1, 1) := by decide +kernel
theorem dX7_setting_5 : decode cX7_setting 5 = .ok (.iconst 5, 1) := by decide +kernel
theorem dX7_setting_6 : decode cX7_setting 6 = .ok (.if_icmp .lt 13, 3) := by decide +kernel
theorem dX7_setting_9 : decode cX7_setting 9 = .ok (.new 69, 3) := by decide +kernel
theorem dX7_setting_12 : decode cX7_setting 12 = .ok (.dup, 1) := by decide +kernel
theorem dX7_setting_13 : decode cX7_setting 13 = .ok (.ldc 204, 2) := by decide +kernel
theorem dX7_setting_15 : decode cX7_setting 15 = .ok (.invokespecial 73, 3) := by decide +kernel
theorem dX7_setting_18 : decode cX7_setting 18 = .ok (.athrow, 1) := by decide +kernel
theorem dX7_setting_19 : decode cX7_setting 19 = .ok (.aload_n 0, 1) := by decide +kernel
theorem dX7_setting_20 : decode cX7_setting 20 = .ok (.getfield 10, 3) := by decide +kernel
theorem dX7_setting_23 : decode cX7_setting 23 = .ok (.getfield 137, 3) := by decide +kernel
theorem dX7_setting_26 : decode cX7_setting 26 = .ok (.iload_n 1, 1) := by decide +kernel
theorem dX7_setting_27 : decode cX7_setting 27 = .ok (.iaload, 1) := by decide +kernel
theorem dX7_setting_28 : decode cX7_setting 28 = .ok (.ireturn, 1) := by decide +kernel
theorem dX7_add_0 : decode cX7_add 0 = .ok (.aload_n 0, 1) := by decide +kernel
theorem dX7_add_1 : decode cX7_add 1 = .ok (.getfield 10, 3) := by decide +kernel
theorem dX7_add_4 : decode cX7_add 4 = .ok (.getfield 99, 3) := by decide +kernel
theorem dX7_add_7 : decode cX7_add 7 = .ok (.iconst 4, 1) := by decide +kernel
theorem dX7_add_8 : decode cX7_add 8 = .ok (.if_icmp .lt 13, 3) := by decide +kernel
theorem dX7_add_11 : decode cX7_add 11 = .ok (.new 80, 3) := by decide +kernel
theorem dX7_add_14 : decode cX7_add 14 = .ok (.dup, 1) := by decide +kernel
theorem dX7_add_15 : decode cX7_add 15 = .ok (.ldc 221, 2) := by decide +kernel
theorem dX7_add_17 : decode cX7_add 17 = .ok (.invokespecial 84, 3) := by decide +kernel
theorem dX7_add_20 : decode cX7_add 20 = .ok (.athrow, 1) := by decide +kernel
theorem dX7_add_21 : decode cX7_add 21 = .ok (.aload_n 0, 1) := by decide +kernel
theorem dX7_add_22 : decode cX7_add 22 = .ok (.getfield 19, 3) := by decide +kernel
theorem dX7_add_25 : decode cX7_add 25 = .ok (.aload_n 0, 1) := by decide +kernel
theorem dX7_add_26 : decode cX7_add 26 = .ok (.getfield 10, 3) := by decide +kernel
theorem dX7_add_29 : decode cX7_add 29 = .ok (.invokevirtual 223, 3) := by decide +kernel
theorem dX7_add_32 : decode cX7_add 32 = .ok (.aload_n 0, 1) := by decide +kernel
theorem dX7_add_33 : decode cX7_add 33 = .ok (.getfield 10, 3) := by decide +kernel
theorem dX7_add_36 : decode cX7_add 36 = .ok (.getfield 99, 3) := by decide +kernel
theorem dX7_add_39 : decode cX7_add 39 = .ok (.istore_n 1, 1) := by decide +kernel
theorem dX7_add_40 : decode cX7_add 40 = .ok (.aload_n 0, 1) := by decide +kernel
theorem dX7_add_41 : decode cX7_add 41 = .ok (.getfield 10, 3) := by decide +kernel
theorem dX7_add_44 : decode cX7_add 44 = .ok (.getfield 133, 3) := by decide +kernel
theorem dX7_add_47 : decode cX7_add 47 = .ok (.iload_n 1, 1) := by decide +kernel
theorem dX7_add_48 : decode cX7_add 48 = .ok (.aaload, 1) := by decide +kernel
theorem dX7_add_49 : decode cX7_add 49 = .ok (.invokevirtual 227, 3) := by decide +kernel
theorem dX7_add_52 : decode cX7_add 52 = .ok (.aload_n 0, 1) := by decide +kernel
theorem dX7_add_53 : decode cX7_add 53 = .ok (.getfield 10, 3) := by decide +kernel
theorem dX7_add_56 : decode cX7_add 56 = .ok (.iload_n 1, 1) := by decide +kernel
theorem dX7_add_57 : decode cX7_add 57 = .ok (.iconst 1, 1) := by decide +kernel
theorem dX7_add_58 : decode cX7_add 58 = .ok (.iadd, 1) := by decide +kernel
theorem dX7_add_59 : decode cX7_add 59 = .ok (.putfield 99, 3) := by decide +kernel
theorem dX7_add_62 : decode cX7_add 62 = .ok (.iload_n 1, 1) := by decide +kernel
theorem dX7_add_63 : decode cX7_add 63 = .ok (.ireturn, 1) := by decide +kernel
theorem dX7_program_0 : decode cX7_program 0 = .ok (.aload_n 0, 1) := by decide +kernel
theorem dX7_program_1 : decode cX7_program 1 = .ok (.getfield 10, 3) := by decide +kernel
theorem dX7_program_4 : decode cX7_program 4 = .ok (.iload_n 1, 1) := by decide +kernel
theorem dX7_program_5 : decode cX7_program 5 = .ok (.invokevirtual 122, 3) := by decide +kernel
theorem dX7_program_8 : decode cX7_program 8 = .ok (.ifCond .ne 13, 3) := by decide +kernel
theorem dX7_program_11 : decode cX7_program 11 = .ok (.new 126, 3) := by decide +kernel
theorem dX7_program_14 : decode cX7_program 14 = .ok (.dup, 1) := by decide +kernel
theorem dX7_program_15 : decode cX7_program 15 = .ok (.ldc 128, 2) := by decide +kernel
theorem dX7_program_17 : decode cX7_program 17 = .ok (.invokespecial 130, 3) := by decide +kernel
theorem dX7_program_20 : decode cX7_program 20 = .ok (.athrow, 1) := by decide +kernel
theorem dX7_program_21 : decode cX7_program 21 = .ok (.aload_n 0, 1) := by decide +kernel
theorem dX7_program_22 : decode cX7_program 22 = .ok (.getfield 34, 3) := by decide +kernel
theorem dX7_program_25 : decode cX7_program 25 = .ok (.aload_n 0, 1) := by decide +kernel
theorem dX7_program_26 : decode cX7_program 26 = .ok (.getfield 65, 3) := by decide +kernel
theorem dX7_program_29 : decode cX7_program 29 = .ok (.invokevirtual 93, 3) := by decide +kernel
theorem dX7_program_32 : decode cX7_program 32 = .ok (.iconst (-1), 1) := by decide +kernel
theorem dX7_program_33 : decode cX7_program 33 = .ok (.if_icmp .eq 13, 3) := by decide +kernel
theorem dX7_program_36 : decode cX7_program 36 = .ok (.new 80, 3) := by decide +kernel
theorem dX7_program_39 : decode cX7_program 39 = .ok (.dup, 1) := by decide +kernel
theorem dX7_program_40 : decode cX7_program 40 = .ok (.ldc 230, 2) := by decide +kernel
theorem dX7_program_42 : decode cX7_program 42 = .ok (.invokespecial 84, 3) := by decide +kernel
theorem dX7_program_45 : decode cX7_program 45 = .ok (.athrow, 1) := by decide +kernel
theorem dX7_program_46 : decode cX7_program 46 = .ok (.aload_n 0, 1) := by decide +kernel
theorem dX7_program_47 : decode cX7_program 47 = .ok (.getfield 19, 3) := by decide +kernel
theorem dX7_program_50 : decode cX7_program 50 = .ok (.aload_n 0, 1) := by decide +kernel
theorem dX7_program_51 : decode cX7_program 51 = .ok (.getfield 10, 3) := by decide +kernel
theorem dX7_program_54 : decode cX7_program 54 = .ok (.invokevirtual 223, 3) := by decide +kernel
theorem dX7_program_57 : decode cX7_program 57 = .ok (.aload_n 0, 1) := by decide +kernel
theorem dX7_program_58 : decode cX7_program 58 = .ok (.getfield 10, 3) := by decide +kernel
theorem dX7_program_61 : decode cX7_program 61 = .ok (.getfield 133, 3) := by decide +kernel
theorem dX7_program_64 : decode cX7_program 64 = .ok (.iload_n 1, 1) := by decide +kernel
theorem dX7_program_65 : decode cX7_program 65 = .ok (.aaload, 1) := by decide +kernel
theorem dX7_program_66 : decode cX7_program 66 = .ok (.astore_n 2, 1) := by decide +kernel
theorem dX7_program_67 : decode cX7_program 67 = .ok (.aload_n 2, 1) := by decide +kernel
theorem dX7_program_68 : decode cX7_program 68 = .ok (.aload_n 0, 1) := by decide +kernel
theorem dX7_program_69 : decode cX7_program 69 = .ok (.getfield 65, 3) := by decide +kernel
theorem dX7_program_72 : decode cX7_program 72 = .ok (.invokevirtual 232, 3) := by decide +kernel
theorem dX7_program_75 : decode cX7_program 75 = .ok (.aload_n 2, 1) := by decide +kernel
theorem dX7_program_76 : decode cX7_program 76 = .ok (.getfield 145, 3) := by decide +kernel
theorem dX7_program_79 : decode cX7_program 79 = .ok (.ireturn, 1) := by decide +kernel
theorem dX7_mark_0 : decode cX7_mark 0 = .ok (.aload_n 0, 1) := by decide +kernel
theorem dX7_mark_1 : decode cX7_mark 1 = .ok (.getfield 10, 3) := by decide +kernel
theorem dX7_mark_4 : decode cX7_mark 4 = .ok (.iload_n 1, 1) := by decide +kernel
theorem dX7_mark_5 : decode cX7_mark 5 = .ok (.iload_n 2, 1) := by decide +kernel
theorem dX7_mark_6 : decode cX7_mark 6 = .ok (.invokevirtual 166, 3) := by decide +kernel
theorem dX7_mark_9 : decode cX7_mark 9 = .ok (.ifCond .ne 13, 3) := by decide +kernel
theorem dX7_mark_12 : decode cX7_mark 12 = .ok (.new 126, 3) := by decide +kernel
theorem dX7_mark_15 : decode cX7_mark 15 = .ok (.dup, 1) := by decide +kernel
theorem dX7_mark_16 : decode cX7_mark 16 = .ok (.ldc 170, 2) := by decide +kernel
theorem dX7_mark_18 : decode cX7_mark 18 = .ok (.invokespecial 130, 3) := by decide +kernel
theorem dX7_mark_21 : decode cX7_mark 21 = .ok (.athrow, 1) := by decide +kernel
theorem dX7_mark_22 : decode cX7_mark 22 = .ok (.iload_n 3, 1) := by decide +kernel
theorem dX7_mark_23 : decode cX7_mark 23 = .ok (.ifCond .lt 9, 3) := by decide +kernel
theorem dX7_mark_26 : decode cX7_mark 26 = .ok (.iload_n 3, 1) := by decide +kernel
theorem dX7_mark_27 : decode cX7_mark 27 = .ok (.ldc 236, 2) := by decide +kernel
theorem dX7_mark_29 : decode cX7_mark 29 = .ok (.if_icmp .le 13, 3) := by decide +kernel
theorem dX7_mark_32 : decode cX7_mark 32 = .ok (.new 69, 3) := by decide +kernel
theorem dX7_mark_35 : decode cX7_mark 35 = .ok (.dup, 1) := by decide +kernel
theorem dX7_mark_36 : decode cX7_mark 36 = .ok (.ldc 237, 2) := by decide +kernel
theorem dX7_mark_38 : decode cX7_mark 38 = .ok (.invokespecial 73, 3) := by decide +kernel
theorem dX7_mark_41 : decode cX7_mark 41 = .ok (.athrow, 1) := by decide +kernel
theorem dX7_mark_42 : decode cX7_mark 42 = .ok (.aload_n 0, 1) := by decide +kernel
theorem dX7_mark_43 : decode cX7_mark 43 = .ok (.getfield 19, 3) := by decide +kernel
theorem dX7_mark_46 : decode cX7_mark 46 = .ok (.aload_n 0, 1) := by decide +kernel
theorem dX7_mark_47 : decode cX7_mark 47 = .ok (.getfield 10, 3) := by decide +kernel
theorem dX7_mark_50 : decode cX7_mark 50 = .ok (.invokevirtual 223, 3) := by decide +kernel
theorem dX7_mark_53 : decode cX7_mark 53 = .ok (.iload_n 3, 1) := by decide +kernel
theorem dX7_mark_54 : decode cX7_mark 54 = .ok (.invokestatic 239, 3) := by decide +kernel
theorem dX7_mark_57 : decode cX7_mark 57 = .ok (.istore 4, 2) := by decide +kernel
theorem dX7_mark_59 : decode cX7_mark 59 = .ok (.aload_n 0, 1) := by decide +kernel
theorem dX7_mark_60 : decode cX7_mark 60 = .ok (.getfield 10, 3) := by decide +kernel
theorem dX7_mark_63 : decode cX7_mark 63 = .ok (.iload_n 1, 1) := by decide +kernel
theorem dX7_mark_64 : decode cX7_mark 64 = .ok (.iload_n 2, 1) := by decide +kernel
theorem dX7_mark_65 : decode cX7_mark 65 = .ok (.iload 4, 2) := by decide +kernel
theorem dX7_mark_67 : decode cX7_mark 67 = .ok (.invokevirtual 242, 3) := by decide +kernel
theorem dX7_mark_70 : decode cX7_mark 70 = .ok (.iload 4, 2) := by decide +kernel
theorem dX7_mark_72 : decode cX7_mark 72 = .ok (.ireturn, 1) := by decide +kernel
theorem dX7_component_0 : decode cX7_component 0 = .ok (.aload_n 0, 1) := by decide +kernel
theorem dX7_component_1 : decode cX7_component 1 = .ok (.getfield 10, 3) := by decide +kernel
theorem dX7_component_4 : decode cX7_component 4 = .ok (.iload_n 1, 1) := by decide +kernel
theorem dX7_component_5 : decode cX7_component 5 = .ok (.invokevirtual 122, 3) := by decide +kernel
theorem dX7_component_8 : decode cX7_component 8 = .ok (.ifCond .eq 12, 3) := by decide +kernel
theorem dX7_component_11 : decode cX7_component 11 = .ok (.iload_n 2, 1) := by decide +kernel
theorem dX7_component_12 : decode cX7_component 12 = .ok (.ifCond .lt 8, 3) := by decide +kernel
theorem dX7_component_15 : decode cX7_component 15 = .ok (.iload_n 2, 1) := by decide +kernel
theorem dX7_component_16 : decode cX7_component 16 = .ok (.iconst 3, 1) := by decide +kernel
theorem dX7_component_17 : decode cX7_component 17 = .ok (.if_icmp .lt 13, 3) := by decide +kernel
theorem dX7_component_20 : decode cX7_component 20 = .ok (.new 126, 3) := by decide +kernel
theorem dX7_component_23 : decode cX7_component 23 = .ok (.dup, 1) := by decide +kernel
theorem dX7_component_24 : decode cX7_component 24 = .ok (.ldc 246, 2) := by decide +kernel
theorem dX7_component_26 : decode cX7_component 26 = .ok (.invokespecial 130, 3) := by decide +kernel
theorem dX7_component_29 : decode cX7_component 29 = .ok (.athrow, 1) := by decide +kernel
theorem dX7_component_30 : decode cX7_component 30 = .ok (.iload_n 3, 1) := by decide +kernel
theorem dX7_component_31 : decode cX7_component 31 = .ok (.ifCond .lt 9, 3) := by decide +kernel
theorem dX7_component_34 : decode cX7_component 34 = .ok (.iload_n 3, 1) := by decide +kernel
theorem dX7_component_35 : decode cX7_component 35 = .ok (.ldc 248, 2) := by decide +kernel
theorem dX7_component_37 : decode cX7_component 37 = .ok (.if_icmp .le 13, 3) := by decide +kernel
theorem dX7_component_40 : decode cX7_component 40 = .ok (.new 69, 3) := by decide +kernel
theorem dX7_component_43 : decode cX7_component 43 = .ok (.dup, 1) := by decide +kernel
theorem dX7_component_44 : decode cX7_component 44 = .ok (.ldc 249, 2) := by decide +kernel
theorem dX7_component_46 : decode cX7_component 46 = .ok (.invokespecial 73, 3) := by decide +kernel
theorem dX7_component_49 : decode cX7_component 49 = .ok (.athrow, 1) := by decide +kernel
theorem dX7_component_50 : decode cX7_component 50 = .ok (.aload_n 0, 1) := by decide +kernel
theorem dX7_component_51 : decode cX7_component 51 = .ok (.getfield 19, 3) := by decide +kernel
theorem dX7_component_54 : decode cX7_component 54 = .ok (.aload_n 0, 1) := by decide +kernel
theorem dX7_component_55 : decode cX7_component 55 = .ok (.getfield 10, 3) := by decide +kernel
theorem dX7_component_58 : decode cX7_component 58 = .ok (.invokevirtual 223, 3) := by decide +kernel
theorem dX7_component_61 : decode cX7_component 61 = .ok (.iload_n 3, 1) := by decide +kernel
theorem dX7_component_62 : decode cX7_component 62 = .ok (.invokestatic 251, 3) := by decide +kernel
theorem dX7_component_65 : decode cX7_component 65 = .ok (.istore 4, 2) := by decide +kernel
theorem dX7_component_67 : decode cX7_component 67 = .ok (.aload_n 0, 1) := by decide +kernel
theorem dX7_component_68 : decode cX7_component 68 = .ok (.getfield 10, 3) := by decide +kernel
theorem dX7_component_71 : decode cX7_component 71 = .ok (.iload_n 1, 1) := by decide +kernel
theorem dX7_component_72 : decode cX7_component 72 = .ok (.iload_n 2, 1) := by decide +kernel
theorem dX7_component_73 : decode cX7_component 73 = .ok (.iload 4, 2) := by decide +kernel
theorem dX7_component_75 : decode cX7_component 75 = .ok (.invokevirtual 254, 3) := by decide +kernel
theorem dX7_component_78 : decode cX7_component 78 = .ok (.iload 4, 2) := by decide +kernel
theorem dX7_component_80 : decode cX7_component 80 = .ok (.ireturn, 1) := by decide +kernel
theorem dX7_call_0 : decode cX7_call 0 = .ok (.aload_n 0, 1) := by decide +kernel
theorem dX7_call_1 : decode cX7_call 1 = .ok (.iload_n 1, 1) := by decide +kernel
theorem dX7_call_2 : decode cX7_call 2 = .ok (.iload_n 2, 1) := by decide +kernel
theorem dX7_call_3 : decode cX7_call 3 = .ok (.iload_n 3, 1) := by decide +kernel
theorem dX7_call_4 : decode cX7_call 4 = .ok (.iload 4, 2) := by decide +kernel
theorem dX7_call_6 : decode cX7_call 6 = .ok (.invokevirtual 257, 3) := by decide +kernel
theorem dX7_call_9 : decode cX7_call 9 = .ok (.aload_n 0, 1) := by decide +kernel
theorem dX7_call_10 : decode cX7_call 10 = .ok (.getfield 19, 3) := by decide +kernel
theorem dX7_call_13 : decode cX7_call 13 = .ok (.aload_n 0, 1) := by decide +kernel
theorem dX7_call_14 : decode cX7_call 14 = .ok (.getfield 10, 3) := by decide +kernel
theorem dX7_call_17 : decode cX7_call 17 = .ok (.invokevirtual 223, 3) := by decide +kernel
theorem dX7_call_20 : decode cX7_call 20 = .ok (.aload_n 0, 1) := by decide +kernel
theorem dX7_call_21 : decode cX7_call 21 = .ok (.getfield 10, 3) := by decide +kernel
theorem dX7_call_24 : decode cX7_call 24 = .ok (.getfield 133, 3) := by decide +kernel
theorem dX7_call_27 : decode cX7_call 27 = .ok (.iload_n 1, 1) := by decide +kernel
theorem dX7_call_28 : decode cX7_call 28 = .ok (.aaload, 1) := by decide +kernel
theorem dX7_call_29 : decode cX7_call 29 = .ok (.getfield 212, 3) := by decide +kernel
theorem dX7_call_32 : decode cX7_call 32 = .ok (.iconst 3, 1) := by decide +kernel
theorem dX7_call_33 : decode cX7_call 33 = .ok (.iload_n 2, 1) := by decide +kernel
theorem dX7_call_34 : decode cX7_call 34 = .ok (.imul, 1) := by decide +kernel
theorem dX7_call_35 : decode cX7_call 35 = .ok (.iload_n 3, 1) := by decide +kernel
theorem dX7_call_36 : decode cX7_call 36 = .ok (.iadd, 1) := by decide +kernel
theorem dX7_call_37 : decode cX7_call 37 = .ok (.iaload, 1) := by decide +kernel
theorem dX7_call_38 : decode cX7_call 38 = .ok (.istore 5, 2) := by decide +kernel
theorem dX7_call_40 : decode cX7_call 40 = .ok (.aload_n 0, 1) := by decide +kernel
theorem dX7_call_41 : decode cX7_call 41 = .ok (.getfield 10, 3) := by decide +kernel
theorem dX7_call_44 : decode cX7_call 44 = .ok (.iload_n 1, 1) := by decide +kernel
theorem dX7_call_45 : decode cX7_call 45 = .ok (.iload_n 2, 1) := by decide +kernel
theorem dX7_call_46 : decode cX7_call 46 = .ok (.iload_n 3, 1) := by decide +kernel
theorem dX7_call_47 : decode cX7_call 47 = .ok (.iload 4, 2) := by decide +kernel
theorem dX7_call_49 : decode cX7_call 49 = .ok (.invokevirtual 261, 3) := by decide +kernel
theorem dX7_call_52 : decode cX7_call 52 = .ok (.pop, 1) := by decide +kernel
theorem dX7_call_53 : decode cX7_call 53 = .ok (.iload 5, 2) := by decide +kernel
theorem dX7_call_55 : decode cX7_call 55 = .ok (.ireturn, 1) := by decide +kernel
theorem dX7_review_0 : decode cX7_review 0 = .ok (.aload_n 0, 1) := by decide +kernel
theorem dX7_review_1 : decode cX7_review 1 = .ok (.getfield 10, 3) := by decide +kernel
theorem dX7_review_4 : decode cX7_review 4 = .ok (.iload_n 1, 1) := by decide +kernel
theorem dX7_review_5 : decode cX7_review 5 = .ok (.iload_n 2, 1) := by decide +kernel
theorem dX7_review_6 : decode cX7_review 6 = .ok (.invokevirtual 166, 3) := by decide +kernel
theorem dX7_review_9 : decode cX7_review 9 = .ok (.ifCond .ne 13, 3) := by decide +kernel
theorem dX7_review_12 : decode cX7_review 12 = .ok (.new 126, 3) := by decide +kernel
theorem dX7_review_15 : decode cX7_review 15 = .ok (.dup, 1) := by decide +kernel
theorem dX7_review_16 : decode cX7_review 16 = .ok (.ldc 170, 2) := by decide +kernel
theorem dX7_review_18 : decode cX7_review 18 = .ok (.invokespecial 130, 3) := by decide +kernel
theorem dX7_review_21 : decode cX7_review 21 = .ok (.athrow, 1) := by decide +kernel
theorem dX7_review_22 : decode cX7_review 22 = .ok (.aload_n 0, 1) := by decide +kernel
theorem dX7_review_23 : decode cX7_review 23 = .ok (.getfield 19, 3) := by decide +kernel
theorem dX7_review_26 : decode cX7_review 26 = .ok (.aload_n 0, 1) := by decide +kernel
theorem dX7_review_27 : decode cX7_review 27 = .ok (.getfield 10, 3) := by decide +kernel
theorem dX7_review_30 : decode cX7_review 30 = .ok (.invokevirtual 223, 3) := by decide +kernel
theorem dX7_review_33 : decode cX7_review 33 = .ok (.aload_n 0, 1) := by decide +kernel
theorem dX7_review_34 : decode cX7_review 34 = .ok (.getfield 10, 3) := by decide +kernel
theorem dX7_review_37 : decode cX7_review 37 = .ok (.iload_n 1, 1) := by decide +kernel
theorem dX7_review_38 : decode cX7_review 38 = .ok (.iload_n 2, 1) := by decide +kernel
theorem dX7_review_39 : decode cX7_review 39 = .ok (.iload_n 3, 1) := by decide +kernel
theorem dX7_review_40 : decode cX7_review 40 = .ok (.ifCond .eq 7, 3) := by decide +kernel
theorem dX7_review_43 : decode cX7_review 43 = .ok (.iconst 1, 1) := by decide +kernel
theorem dX7_review_44 : decode cX7_review 44 = .ok (.goto 4, 3) := by decide +kernel
theorem dX7_review_47 : decode cX7_review 47 = .ok (.iconst 0, 1) := by decide +kernel
theorem dX7_review_48 : decode cX7_review 48 = .ok (.invokevirtual 265, 3) := by decide +kernel
theorem dX7_review_51 : decode cX7_review 51 = .ok (.pop, 1) := by decide +kernel
theorem dX7_review_52 : decode cX7_review 52 = .ok (.aload_n 0, 1) := by decide +kernel
theorem dX7_review_53 : decode cX7_review 53 = .ok (.getfield 10, 3) := by decide +kernel
theorem dX7_review_56 : decode cX7_review 56 = .ok (.invokevirtual 102, 3) := by decide +kernel
theorem dX7_review_59 : decode cX7_review 59 = .ok (.ireturn, 1) := by decide +kernel
theorem dX7_fall_0 : decode cX7_fall 0 = .ok (.aload_n 0, 1) := by decide +kernel
theorem dX7_fall_1 : decode cX7_fall 1 = .ok (.getfield 10, 3) := by decide +kernel
theorem dX7_fall_4 : decode cX7_fall 4 = .ok (.iload_n 1, 1) := by decide +kernel
theorem dX7_fall_5 : decode cX7_fall 5 = .ok (.iload_n 2, 1) := by decide +kernel
theorem dX7_fall_6 : decode cX7_fall 6 = .ok (.invokevirtual 166, 3) := by decide +kernel
theorem dX7_fall_9 : decode cX7_fall 9 = .ok (.ifCond .ne 13, 3) := by decide +kernel
theorem dX7_fall_12 : decode cX7_fall 12 = .ok (.new 126, 3) := by decide +kernel
theorem dX7_fall_15 : decode cX7_fall 15 = .ok (.dup, 1) := by decide +kernel
theorem dX7_fall_16 : decode cX7_fall 16 = .ok (.ldc 170, 2) := by decide +kernel
theorem dX7_fall_18 : decode cX7_fall 18 = .ok (.invokespecial 130, 3) := by decide +kernel
theorem dX7_fall_21 : decode cX7_fall 21 = .ok (.athrow, 1) := by decide +kernel
theorem dX7_fall_22 : decode cX7_fall 22 = .ok (.aload_n 0, 1) := by decide +kernel
theorem dX7_fall_23 : decode cX7_fall 23 = .ok (.getfield 19, 3) := by decide +kernel
theorem dX7_fall_26 : decode cX7_fall 26 = .ok (.aload_n 0, 1) := by decide +kernel
theorem dX7_fall_27 : decode cX7_fall 27 = .ok (.getfield 10, 3) := by decide +kernel
theorem dX7_fall_30 : decode cX7_fall 30 = .ok (.invokevirtual 223, 3) := by decide +kernel
theorem dX7_fall_33 : decode cX7_fall 33 = .ok (.aload_n 0, 1) := by decide +kernel
theorem dX7_fall_34 : decode cX7_fall 34 = .ok (.getfield 10, 3) := by decide +kernel
theorem dX7_fall_37 : decode cX7_fall 37 = .ok (.iload_n 1, 1) := by decide +kernel
theorem dX7_fall_38 : decode cX7_fall 38 = .ok (.iload_n 2, 1) := by decide +kernel
theorem dX7_fall_39 : decode cX7_fall 39 = .ok (.iload_n 3, 1) := by decide +kernel
theorem dX7_fall_40 : decode cX7_fall 40 = .ok (.ifCond .eq 7, 3) := by decide +kernel
theorem dX7_fall_43 : decode cX7_fall 43 = .ok (.iconst 1, 1) := by decide +kernel
theorem dX7_fall_44 : decode cX7_fall 44 = .ok (.goto 4, 3) := by decide +kernel
theorem dX7_fall_47 : decode cX7_fall 47 = .ok (.iconst 0, 1) := by decide +kernel
theorem dX7_fall_48 : decode cX7_fall 48 = .ok (.invokevirtual 268, 3) := by decide +kernel
theorem dX7_fall_51 : decode cX7_fall 51 = .ok (.pop, 1) := by decide +kernel
theorem dX7_fall_52 : decode cX7_fall 52 = .ok (.aload_n 0, 1) := by decide +kernel
theorem dX7_fall_53 : decode cX7_fall 53 = .ok (.getfield 10, 3) := by decide +kernel
theorem dX7_fall_56 : decode cX7_fall 56 = .ok (.getfield 133, 3) := by decide +kernel
theorem dX7_fall_59 : decode cX7_fall 59 = .ok (.iload_n 1, 1) := by decide +kernel
theorem dX7_fall_60 : decode cX7_fall 60 = .ok (.aaload, 1) := by decide +kernel
theorem dX7_fall_61 : decode cX7_fall 61 = .ok (.invokevirtual 164, 3) := by decide +kernel
theorem dX7_fall_64 : decode cX7_fall 64 = .ok (.ireturn, 1) := by decide +kernel
theorem dX7_penalty_0 : decode cX7_penalty 0 = .ok (.aload_n 0, 1) := by decide +kernel
theorem dX7_penalty_1 : decode cX7_penalty 1 = .ok (.getfield 10, 3) := by decide +kernel
theorem dX7_penalty_4 : decode cX7_penalty 4 = .ok (.iload_n 1, 1) := by decide +kernel
theorem dX7_penalty_5 : decode cX7_penalty 5 = .ok (.invokevirtual 122, 3) := by decide +kernel
theorem dX7_penalty_8 : decode cX7_penalty 8 = .ok (.ifCond .ne 13, 3) := by decide +kernel
theorem dX7_penalty_11 : decode cX7_penalty 11 = .ok (.new 126, 3) := by decide +kernel
theorem dX7_penalty_14 : decode cX7_penalty 14 = .ok (.dup, 1) := by decide +kernel
theorem dX7_penalty_15 : decode cX7_penalty 15 = .ok (.ldc 128, 2) := by decide +kernel
theorem dX7_penalty_17 : decode cX7_penalty 17 = .ok (.invokespecial 130, 3) := by decide +kernel
theorem dX7_penalty_20 : decode cX7_penalty 20 = .ok (.athrow, 1) := by decide +kernel
theorem dX7_penalty_21 : decode cX7_penalty 21 = .ok (.iload_n 2, 1) := by decide +kernel
theorem dX7_penalty_22 : decode cX7_penalty 22 = .ok (.ifCond .lt 9, 3) := by decide +kernel
theorem dX7_penalty_25 : decode cX7_penalty 25 = .ok (.iload_n 2, 1) := by decide +kernel
theorem dX7_penalty_26 : decode cX7_penalty 26 = .ok (.bipush 9, 2) := by decide +kernel
theorem dX7_penalty_28 : decode cX7_penalty 28 = .ok (.if_icmp .le 14, 3) := by decide +kernel
theorem dX7_penalty_31 : decode cX7_penalty 31 = .ok (.new 69, 3) := by decide +kernel
theorem dX7_penalty_34 : decode cX7_penalty 34 = .ok (.dup, 1) := by decide +kernel
theorem dX7_penalty_35 : decode cX7_penalty 35 = .ok (.ldc_w 271, 3) := by decide +kernel
theorem dX7_penalty_38 : decode cX7_penalty 38 = .ok (.invokespecial 73, 3) := by decide +kernel
theorem dX7_penalty_41 : decode cX7_penalty 41 = .ok (.athrow, 1) := by decide +kernel
theorem dX7_penalty_42 : decode cX7_penalty 42 = .ok (.aload_n 0, 1) := by decide +kernel
theorem dX7_penalty_43 : decode cX7_penalty 43 = .ok (.getfield 19, 3) := by decide +kernel
theorem dX7_penalty_46 : decode cX7_penalty 46 = .ok (.aload_n 0, 1) := by decide +kernel
theorem dX7_penalty_47 : decode cX7_penalty 47 = .ok (.getfield 10, 3) := by decide +kernel
theorem dX7_penalty_50 : decode cX7_penalty 50 = .ok (.invokevirtual 223, 3) := by decide +kernel
theorem dX7_penalty_53 : decode cX7_penalty 53 = .ok (.aload_n 0, 1) := by decide +kernel
theorem dX7_penalty_54 : decode cX7_penalty 54 = .ok (.getfield 10, 3) := by decide +kernel
theorem dX7_penalty_57 : decode cX7_penalty 57 = .ok (.getfield 133, 3) := by decide +kernel
theorem dX7_penalty_60 : decode cX7_penalty 60 = .ok (.iload_n 1, 1) := by decide +kernel
theorem dX7_penalty_61 : decode cX7_penalty 61 = .ok (.aaload, 1) := by decide +kernel
theorem dX7_penalty_62 : decode cX7_penalty 62 = .ok (.getfield 273, 3) := by decide +kernel
theorem dX7_penalty_65 : decode cX7_penalty 65 = .ok (.istore_n 3, 1) := by decide +kernel
theorem dX7_penalty_66 : decode cX7_penalty 66 = .ok (.aload_n 0, 1) := by decide +kernel
theorem dX7_penalty_67 : decode cX7_penalty 67 = .ok (.getfield 10, 3) := by decide +kernel
theorem dX7_penalty_70 : decode cX7_penalty 70 = .ok (.iload_n 1, 1) := by decide +kernel
theorem dX7_penalty_71 : decode cX7_penalty 71 = .ok (.iload_n 2, 1) := by decide +kernel
theorem dX7_penalty_72 : decode cX7_penalty 72 = .ok (.invokevirtual 276, 3) := by decide +kernel
theorem dX7_penalty_75 : decode cX7_penalty 75 = .ok (.pop, 1) := by decide +kernel
theorem dX7_penalty_76 : decode cX7_penalty 76 = .ok (.iload_n 3, 1) := by decide +kernel
theorem dX7_penalty_77 : decode cX7_penalty 77 = .ok (.ireturn, 1) := by decide +kernel
theorem dX7_set_0 : decode cX7_set 0 = .ok (.iload_n 1, 1) := by decide +kernel
theorem dX7_set_1 : decode cX7_set 1 = .ok (.iload_n 2, 1) := by decide +kernel
theorem dX7_set_2 : decode cX7_set 2 = .ok (.invokestatic 279, 3) := by decide +kernel
theorem dX7_set_5 : decode cX7_set 5 = .ok (.ifCond .ne 14, 3) := by decide +kernel
theorem dX7_set_8 : decode cX7_set 8 = .ok (.new 69, 3) := by decide +kernel
theorem dX7_set_11 : decode cX7_set 11 = .ok (.dup, 1) := by decide +kernel
theorem dX7_set_12 : decode cX7_set 12 = .ok (.ldc_w 282, 3) := by decide +kernel
theorem dX7_set_15 : decode cX7_set 15 = .ok (.invokespecial 73, 3) := by decide +kernel
theorem dX7_set_18 : decode cX7_set 18 = .ok (.athrow, 1) := by decide +kernel
theorem dX7_set_19 : decode cX7_set 19 = .ok (.aload_n 0, 1) := by decide +kernel
theorem dX7_set_20 : decode cX7_set 20 = .ok (.getfield 19, 3) := by decide +kernel
theorem dX7_set_23 : decode cX7_set 23 = .ok (.aload_n 0, 1) := by decide +kernel
theorem dX7_set_24 : decode cX7_set 24 = .ok (.getfield 10, 3) := by decide +kernel
theorem dX7_set_27 : decode cX7_set 27 = .ok (.invokevirtual 223, 3) := by decide +kernel
theorem dX7_set_30 : decode cX7_set 30 = .ok (.aload_n 0, 1) := by decide +kernel
theorem dX7_set_31 : decode cX7_set 31 = .ok (.getfield 10, 3) := by decide +kernel
theorem dX7_set_34 : decode cX7_set 34 = .ok (.getfield 137, 3) := by decide +kernel
theorem dX7_set_37 : decode cX7_set 37 = .ok (.iload_n 1, 1) := by decide +kernel
theorem dX7_set_38 : decode cX7_set 38 = .ok (.iaload, 1) := by decide +kernel
theorem dX7_set_39 : decode cX7_set 39 = .ok (.istore_n 3, 1) := by decide +kernel
theorem dX7_set_40 : decode cX7_set 40 = .ok (.aload_n 0, 1) := by decide +kernel
theorem dX7_set_41 : decode cX7_set 41 = .ok (.getfield 10, 3) := by decide +kernel
theorem dX7_set_44 : decode cX7_set 44 = .ok (.iload_n 1, 1) := by decide +kernel
theorem dX7_set_45 : decode cX7_set 45 = .ok (.iload_n 2, 1) := by decide +kernel
theorem dX7_set_46 : decode cX7_set 46 = .ok (.invokevirtual 284, 3) := by decide +kernel
theorem dX7_set_49 : decode cX7_set 49 = .ok (.pop, 1) := by decide +kernel
theorem dX7_set_50 : decode cX7_set 50 = .ok (.iload_n 3, 1) := by decide +kernel
theorem dX7_set_51 : decode cX7_set 51 = .ok (.ireturn, 1) := by decide +kernel
theorem dX7_undo_0 : decode cX7_undo 0 = .ok (.aload_n 0, 1) := by decide +kernel
theorem dX7_undo_1 : decode cX7_undo 1 = .ok (.getfield 19, 3) := by decide +kernel
theorem dX7_undo_4 : decode cX7_undo 4 = .ok (.aload_n 0, 1) := by decide +kernel
theorem dX7_undo_5 : decode cX7_undo 5 = .ok (.getfield 10, 3) := by decide +kernel
theorem dX7_undo_8 : decode cX7_undo 8 = .ok (.invokevirtual 287, 3) := by decide +kernel
theorem dX7_undo_11 : decode cX7_undo 11 = .ok (.ifCond .ne 14, 3) := by decide +kernel
theorem dX7_undo_14 : decode cX7_undo 14 = .ok (.new 80, 3) := by decide +kernel
theorem dX7_undo_17 : decode cX7_undo 17 = .ok (.dup, 1) := by decide +kernel
theorem dX7_undo_18 : decode cX7_undo 18 = .ok (.ldc_w 291, 3) := by decide +kernel
theorem dX7_undo_21 : decode cX7_undo 21 = .ok (.invokespecial 84, 3) := by decide +kernel
theorem dX7_undo_24 : decode cX7_undo 24 = .ok (.athrow, 1) := by decide +kernel
theorem dX7_undo_25 : decode cX7_undo 25 = .ok (.aload_n 0, 1) := by decide +kernel
theorem dX7_undo_26 : decode cX7_undo 26 = .ok (.getfield 19, 3) := by decide +kernel
theorem dX7_undo_29 : decode cX7_undo 29 = .ok (.getfield 293, 3) := by decide +kernel
theorem dX7_undo_32 : decode cX7_undo 32 = .ok (.ireturn, 1) := by decide +kernel
theorem dX7_ifCalled_0 : decode cX7_ifCalled 0 = .ok (.aload_n 0, 1) := by decide +kernel
theorem dX7_ifCalled_1 : decode cX7_ifCalled 1 = .ok (.iload_n 1, 1) := by decide +kernel
theorem dX7_ifCalled_2 : decode cX7_ifCalled 2 = .ok (.iload_n 2, 1) := by decide +kernel
theorem dX7_ifCalled_3 : decode cX7_ifCalled 3 = .ok (.iload_n 3, 1) := by decide +kernel
theorem dX7_ifCalled_4 : decode cX7_ifCalled 4 = .ok (.iload 4, 2) := by decide +kernel
theorem dX7_ifCalled_6 : decode cX7_ifCalled 6 = .ok (.invokevirtual 257, 3) := by decide +kernel
theorem dX7_ifCalled_9 : decode cX7_ifCalled 9 = .ok (.aload_n 0, 1) := by decide +kernel
theorem dX7_ifCalled_10 : decode cX7_ifCalled 10 = .ok (.getfield 65, 3) := by decide +kernel
theorem dX7_ifCalled_13 : decode cX7_ifCalled 13 = .ok (.aload_n 0, 1) := by decide +kernel
theorem dX7_ifCalled_14 : decode cX7_ifCalled 14 = .ok (.getfield 10, 3) := by decide +kernel
theorem dX7_ifCalled_17 : decode cX7_ifCalled 17 = .ok (.getfield 133, 3) := by decide +kernel
theorem dX7_ifCalled_20 : decode cX7_ifCalled 20 = .ok (.iload_n 1, 1) := by decide +kernel
theorem dX7_ifCalled_21 : decode cX7_ifCalled 21 = .ok (.aaload, 1) := by decide +kernel
theorem dX7_ifCalled_22 : decode cX7_ifCalled 22 = .ok (.invokevirtual 296, 3) := by decide +kernel
theorem dX7_ifCalled_25 : decode cX7_ifCalled 25 = .ok (.aload_n 0, 1) := by decide +kernel
theorem dX7_ifCalled_26 : decode cX7_ifCalled 26 = .ok (.getfield 65, 3) := by decide +kernel
theorem dX7_ifCalled_29 : decode cX7_ifCalled 29 = .ok (.getfield 212, 3) := by decide +kernel
theorem dX7_ifCalled_32 : decode cX7_ifCalled 32 = .ok (.iconst 3, 1) := by decide +kernel
theorem dX7_ifCalled_33 : decode cX7_ifCalled 33 = .ok (.iload_n 2, 1) := by decide +kernel
theorem dX7_ifCalled_34 : decode cX7_ifCalled 34 = .ok (.imul, 1) := by decide +kernel
theorem dX7_ifCalled_35 : decode cX7_ifCalled 35 = .ok (.iload_n 3, 1) := by decide +kernel
theorem dX7_ifCalled_36 : decode cX7_ifCalled 36 = .ok (.iadd, 1) := by decide +kernel
theorem dX7_ifCalled_37 : decode cX7_ifCalled 37 = .ok (.iload 4, 2) := by decide +kernel
theorem dX7_ifCalled_39 : decode cX7_ifCalled 39 = .ok (.iastore, 1) := by decide +kernel
theorem dX7_ifCalled_40 : decode cX7_ifCalled 40 = .ok (.aload_n 0, 1) := by decide +kernel
theorem dX7_ifCalled_41 : decode cX7_ifCalled 41 = .ok (.getfield 41, 3) := by decide +kernel
theorem dX7_ifCalled_44 : decode cX7_ifCalled 44 = .ok (.aload_n 0, 1) := by decide +kernel
theorem dX7_ifCalled_45 : decode cX7_ifCalled 45 = .ok (.getfield 65, 3) := by decide +kernel
theorem dX7_ifCalled_48 : decode cX7_ifCalled 48 = .ok (.aload_n 0, 1) := by decide +kernel
theorem dX7_ifCalled_49 : decode cX7_ifCalled 49 = .ok (.getfield 10, 3) := by decide +kernel
theorem dX7_ifCalled_52 : decode cX7_ifCalled 52 = .ok (.getfield 137, 3) := by decide +kernel
theorem dX7_ifCalled_55 : decode cX7_ifCalled 55 = .ok (.invokevirtual 141, 3) := by decide +kernel
theorem dX7_ifCalled_58 : decode cX7_ifCalled 58 = .ok (.aload_n 0, 1) := by decide +kernel
theorem dX7_ifCalled_59 : decode cX7_ifCalled 59 = .ok (.getfield 41, 3) := by decide +kernel
theorem dX7_ifCalled_62 : decode cX7_ifCalled 62 = .ok (.invokevirtual 157, 3) := by decide +kernel
theorem dX7_ifCalled_65 : decode cX7_ifCalled 65 = .ok (.ireturn, 1) := by decide +kernel
theorem dX7_ifReplaced_0 : decode cX7_ifReplaced 0 = .ok (.aload_n 0, 1) := by decide +kernel
theorem dX7_ifReplaced_1 : decode cX7_ifReplaced 1 = .ok (.getfield 10, 3) := by decide +kernel
theorem dX7_ifReplaced_4 : decode cX7_ifReplaced 4 = .ok (.iload_n 1, 1) := by decide +kernel
theorem dX7_ifReplaced_5 : decode cX7_ifReplaced 5 = .ok (.iload_n 2, 1) := by decide +kernel
theorem dX7_ifReplaced_6 : decode cX7_ifReplaced 6 = .ok (.invokevirtual 166, 3) := by decide +kernel
theorem dX7_ifReplaced_9 : decode cX7_ifReplaced 9 = .ok (.ifCond .ne 13, 3) := by decide +kernel
theorem dX7_ifReplaced_12 : decode cX7_ifReplaced 12 = .ok (.new 126, 3) := by decide +kernel
theorem dX7_ifReplaced_15 : decode cX7_ifReplaced 15 = .ok (.dup, 1) := by decide +kernel
theorem dX7_ifReplaced_16 : decode cX7_ifReplaced 16 = .ok (.ldc 170, 2) := by decide +kernel
theorem dX7_ifReplaced_18 : decode cX7_ifReplaced 18 = .ok (.invokespecial 130, 3) := by decide +kernel
theorem dX7_ifReplaced_21 : decode cX7_ifReplaced 21 = .ok (.athrow, 1) := by decide +kernel
theorem dX7_ifReplaced_22 : decode cX7_ifReplaced 22 = .ok (.aload_n 0, 1) := by decide +kernel
theorem dX7_ifReplaced_23 : decode cX7_ifReplaced 23 = .ok (.getfield 34, 3) := by decide +kernel
theorem dX7_ifReplaced_26 : decode cX7_ifReplaced 26 = .ok (.aload_n 0, 1) := by decide +kernel
theorem dX7_ifReplaced_27 : decode cX7_ifReplaced 27 = .ok (.getfield 65, 3) := by decide +kernel
theorem dX7_ifReplaced_30 : decode cX7_ifReplaced 30 = .ok (.invokevirtual 93, 3) := by decide +kernel
theorem dX7_ifReplaced_33 : decode cX7_ifReplaced 33 = .ok (.iconst (-1), 1) := by decide +kernel
theorem dX7_ifReplaced_34 : decode cX7_ifReplaced 34 = .ok (.if_icmp .ne 14, 3) := by decide +kernel
theorem dX7_ifReplaced_37 : decode cX7_ifReplaced 37 = .ok (.aload_n 0, 1) := by decide +kernel
theorem dX7_ifReplaced_38 : decode cX7_ifReplaced 38 = .ok (.getfield 65, 3) := by decide +kernel
theorem dX7_ifReplaced_41 : decode cX7_ifReplaced 41 = .ok (.getfield 145, 3) := by decide +kernel
theorem dX7_ifReplaced_44 : decode cX7_ifReplaced 44 = .ok (.iconst 1, 1) := by decide +kernel
theorem dX7_ifReplaced_45 : decode cX7_ifReplaced 45 = .ok (.if_icmp .eq 14, 3) := by decide +kernel
theorem dX7_ifReplaced_48 : decode cX7_ifReplaced 48 = .ok (.new 80, 3) := by decide +kernel
theorem dX7_ifReplaced_51 : decode cX7_ifReplaced 51 = .ok (.dup, 1) := by decide +kernel
theorem dX7_ifReplaced_52 : decode cX7_ifReplaced 52 = .ok (.ldc_w 299, 3) := by decide +kernel
theorem dX7_ifReplaced_55 : decode cX7_ifReplaced 55 = .ok (.invokespecial 84, 3) := by decide +kernel
theorem dX7_ifReplaced_58 : decode cX7_ifReplaced 58 = .ok (.athrow, 1) := by decide +kernel
theorem dX7_ifReplaced_59 : decode cX7_ifReplaced 59 = .ok (.aload_n 0, 1) := by decide +kernel
theorem dX7_ifReplaced_60 : decode cX7_ifReplaced 60 = .ok (.getfield 59, 3) := by decide +kernel
theorem dX7_ifReplaced_63 : decode cX7_ifReplaced 63 = .ok (.getfield 133, 3) := by decide +kernel
theorem dX7_ifReplaced_66 : decode cX7_ifReplaced 66 = .ok (.iload_n 1, 1) := by decide +kernel
theorem dX7_ifReplaced_67 : decode cX7_ifReplaced 67 = .ok (.aaload, 1) := by decide +kernel
theorem dX7_ifReplaced_68 : decode cX7_ifReplaced 68 = .ok (.astore_n 3, 1) := by decide +kernel
theorem dX7_ifReplaced_69 : decode cX7_ifReplaced 69 = .ok (.aload_n 3, 1) := by decide +kernel
theorem dX7_ifReplaced_70 : decode cX7_ifReplaced 70 = .ok (.aload_n 0, 1) := by decide +kernel
theorem dX7_ifReplaced_71 : decode cX7_ifReplaced 71 = .ok (.getfield 10, 3) := by decide +kernel
theorem dX7_ifReplaced_74 : decode cX7_ifReplaced 74 = .ok (.getfield 133, 3) := by decide +kernel
theorem dX7_ifReplaced_77 : decode cX7_ifReplaced 77 = .ok (.iload_n 1, 1) := by decide +kernel
theorem dX7_ifReplaced_78 : decode cX7_ifReplaced 78 = .ok (.aaload, 1) := by decide +kernel
theorem dX7_ifReplaced_79 : decode cX7_ifReplaced 79 = .ok (.invokevirtual 296, 3) := by decide +kernel
theorem dX7_ifReplaced_82 : decode cX7_ifReplaced 82 = .ok (.aload_n 3, 1) := by decide +kernel
theorem dX7_ifReplaced_83 : decode cX7_ifReplaced 83 = .ok (.iload_n 2, 1) := by decide +kernel
theorem dX7_ifReplaced_84 : decode cX7_ifReplaced 84 = .ok (.aload_n 0, 1) := by decide +kernel
theorem dX7_ifReplaced_85 : decode cX7_ifReplaced 85 = .ok (.getfield 65, 3) := by decide +kernel
theorem dX7_ifReplaced_88 : decode cX7_ifReplaced 88 = .ok (.iconst 0, 1) := by decide +kernel
theorem dX7_ifReplaced_89 : decode cX7_ifReplaced 89 = .ok (.invokevirtual 301, 3) := by decide +kernel
theorem dX7_ifReplaced_92 : decode cX7_ifReplaced 92 = .ok (.aload_n 0, 1) := by decide +kernel
theorem dX7_ifReplaced_93 : decode cX7_ifReplaced 93 = .ok (.getfield 41, 3) := by decide +kernel
theorem dX7_ifReplaced_96 : decode cX7_ifReplaced 96 = .ok (.aload_n 3, 1) := by decide +kernel
theorem dX7_ifReplaced_97 : decode cX7_ifReplaced 97 = .ok (.aload_n 0, 1) := by decide +kernel
theorem dX7_ifReplaced_98 : decode cX7_ifReplaced 98 = .ok (.getfield 10, 3) := by decide +kernel
theorem dX7_ifReplaced_101 : decode cX7_ifReplaced 101 = .ok (.getfield 137, 3) := by decide +kernel
theorem dX7_ifReplaced_104 : decode cX7_ifReplaced 104 = .ok (.invokevirtual 141, 3) := by decide +kernel
theorem dX7_ifReplaced_107 : decode cX7_ifReplaced 107 = .ok (.aload_n 0, 1) := by decide +kernel
theorem dX7_ifReplaced_108 : decode cX7_ifReplaced 108 = .ok (.getfield 41, 3) := by decide +kernel
theorem dX7_ifReplaced_111 : decode cX7_ifReplaced 111 = .ok (.invokevirtual 157, 3) := by decide +kernel
theorem dX7_ifReplaced_114 : decode cX7_ifReplaced 114 = .ok (.ireturn, 1) := by decide +kernel
theorem dX7_bestSwap_0 : decode cX7_bestSwap 0 = .ok (.aload_n 0, 1) := by decide +kernel
theorem dX7_bestSwap_1 : decode cX7_bestSwap 1 = .ok (.getfield 10, 3) := by decide +kernel
theorem dX7_bestSwap_4 : decode cX7_bestSwap 4 = .ok (.iload_n 1, 1) := by decide +kernel
theorem dX7_bestSwap_5 : decode cX7_bestSwap 5 = .ok (.invokevirtual 122, 3) := by decide +kernel
theorem dX7_bestSwap_8 : decode cX7_bestSwap 8 = .ok (.ifCond .ne 13, 3) := by decide +kernel
theorem dX7_bestSwap_11 : decode cX7_bestSwap 11 = .ok (.new 126, 3) := by decide +kernel
theorem dX7_bestSwap_14 : decode cX7_bestSwap 14 = .ok (.dup, 1) := by decide +kernel
theorem dX7_bestSwap_15 : decode cX7_bestSwap 15 = .ok (.ldc 128, 2) := by decide +kernel
theorem dX7_bestSwap_17 : decode cX7_bestSwap 17 = .ok (.invokespecial 130, 3) := by decide +kernel
theorem dX7_bestSwap_20 : decode cX7_bestSwap 20 = .ok (.athrow, 1) := by decide +kernel
theorem dX7_bestSwap_21 : decode cX7_bestSwap 21 = .ok (.iload_n 2, 1) := by decide +kernel
theorem dX7_bestSwap_22 : decode cX7_bestSwap 22 = .ok (.ifCond .lt 8, 3) := by decide +kernel
theorem dX7_bestSwap_25 : decode cX7_bestSwap 25 = .ok (.iload_n 2, 1) := by decide +kernel
theorem dX7_bestSwap_26 : decode cX7_bestSwap 26 = .ok (.iconst 2, 1) := by decide +kernel
theorem dX7_bestSwap_27 : decode cX7_bestSwap 27 = .ok (.if_icmp .le 14, 3) := by decide +kernel
theorem dX7_bestSwap_30 : decode cX7_bestSwap 30 = .ok (.new 69, 3) := by decide +kernel
theorem dX7_bestSwap_33 : decode cX7_bestSwap 33 = .ok (.dup, 1) := by decide +kernel
theorem dX7_bestSwap_34 : decode cX7_bestSwap 34 = .ok (.ldc_w 305, 3) := by decide +kernel
theorem dX7_bestSwap_37 : decode cX7_bestSwap 37 = .ok (.invokespecial 73, 3) := by decide +kernel
theorem dX7_bestSwap_40 : decode cX7_bestSwap 40 = .ok (.athrow, 1) := by decide +kernel
theorem dX7_bestSwap_41 : decode cX7_bestSwap 41 = .ok (.aload_n 0, 1) := by decide +kernel
theorem dX7_bestSwap_42 : decode cX7_bestSwap 42 = .ok (.getfield 10, 3) := by decide +kernel
theorem dX7_bestSwap_45 : decode cX7_bestSwap 45 = .ok (.getfield 133, 3) := by decide +kernel
theorem dX7_bestSwap_48 : decode cX7_bestSwap 48 = .ok (.iload_n 1, 1) := by decide +kernel
theorem dX7_bestSwap_49 : decode cX7_bestSwap 49 = .ok (.aaload, 1) := by decide +kernel
theorem dX7_bestSwap_50 : decode cX7_bestSwap 50 = .ok (.astore_n 3, 1) := by decide +kernel
theorem dX7_bestSwap_51 : decode cX7_bestSwap 51 = .ok (.aload_n 0, 1) := by decide +kernel
theorem dX7_bestSwap_52 : decode cX7_bestSwap 52 = .ok (.getfield 65, 3) := by decide +kernel
theorem dX7_bestSwap_55 : decode cX7_bestSwap 55 = .ok (.aload_n 3, 1) := by decide +kernel
theorem dX7_bestSwap_56 : decode cX7_bestSwap 56 = .ok (.invokevirtual 296, 3) := by decide +kernel
theorem dX7_bestSwap_59 : decode cX7_bestSwap 59 = .ok (.iconst 0, 1) := by decide +kernel
theorem dX7_bestSwap_60 : decode cX7_bestSwap 60 = .ok (.istore 4, 2) := by decide +kernel
theorem dX7_bestSwap_62 : decode cX7_bestSwap 62 = .ok (.iconst (-1), 1) := by decide +kernel
theorem dX7_bestSwap_63 : decode cX7_bestSwap 63 = .ok (.istore 5, 2) := by decide +kernel
theorem dX7_bestSwap_65 : decode cX7_bestSwap 65 = .ok (.iconst (-1), 1) := by decide +kernel
theorem dX7_bestSwap_66 : decode cX7_bestSwap 66 = .ok (.istore 6, 2) := by decide +kernel
theorem dX7_bestSwap_68 : decode cX7_bestSwap 68 = .ok (.iconst 0, 1) := by decide +kernel
theorem dX7_bestSwap_69 : decode cX7_bestSwap 69 = .ok (.istore 7, 2) := by decide +kernel
theorem dX7_bestSwap_71 : decode cX7_bestSwap 71 = .ok (.iload 7, 2) := by decide +kernel
theorem dX7_bestSwap_73 : decode cX7_bestSwap 73 = .ok (.aload_n 3, 1) := by decide +kernel
theorem dX7_bestSwap_74 : decode cX7_bestSwap 74 = .ok (.getfield 145, 3) := by decide +kernel
theorem dX7_bestSwap_77 : decode cX7_bestSwap 77 = .ok (.if_icmp .ge 66, 3) := by decide +kernel
theorem dX7_bestSwap_80 : decode cX7_bestSwap 80 = .ok (.iload 7, 2) := by decide +kernel
theorem dX7_bestSwap_82 : decode cX7_bestSwap 82 = .ok (.iconst 1, 1) := by decide +kernel
theorem dX7_bestSwap_83 : decode cX7_bestSwap 83 = .ok (.iadd, 1) := by decide +kernel
theorem dX7_bestSwap_84 : decode cX7_bestSwap 84 = .ok (.istore 8, 2) := by decide +kernel
theorem dX7_bestSwap_86 : decode cX7_bestSwap 86 = .ok (.iload 8, 2) := by decide +kernel
theorem dX7_bestSwap_88 : decode cX7_bestSwap 88 = .ok (.aload_n 3, 1) := by decide +kernel
theorem dX7_bestSwap_89 : decode cX7_bestSwap 89 = .ok (.getfield 145, 3) := by decide +kernel
theorem dX7_bestSwap_92 : decode cX7_bestSwap 92 = .ok (.if_icmp .ge 45, 3) := by decide +kernel
theorem dX7_bestSwap_95 : decode cX7_bestSwap 95 = .ok (.aload_n 0, 1) := by decide +kernel
theorem dX7_bestSwap_96 : decode cX7_bestSwap 96 = .ok (.aload_n 3, 1) := by decide +kernel
theorem dX7_bestSwap_97 : decode cX7_bestSwap 97 = .ok (.iload 7, 2) := by decide +kernel
theorem dX7_bestSwap_99 : decode cX7_bestSwap 99 = .ok (.iload 8, 2) := by decide +kernel
theorem dX7_bestSwap_101 : decode cX7_bestSwap 101 = .ok (.invokevirtual 307, 3) := by decide +kernel
theorem dX7_bestSwap_104 : decode cX7_bestSwap 104 = .ok (.istore 9, 2) := by decide +kernel
theorem dX7_bestSwap_106 : decode cX7_bestSwap 106 = .ok (.iload 5, 2) := by decide +kernel
theorem dX7_bestSwap_108 : decode cX7_bestSwap 108 = .ok (.iconst (-1), 1) := by decide +kernel
theorem dX7_bestSwap_109 : decode cX7_bestSwap 109 = .ok (.if_icmp .eq 10, 3) := by decide +kernel
theorem dX7_bestSwap_112 : decode cX7_bestSwap 112 = .ok (.iload 9, 2) := by decide +kernel
theorem dX7_bestSwap_114 : decode cX7_bestSwap 114 = .ok (.iload 4, 2) := by decide +kernel
theorem dX7_bestSwap_116 : decode cX7_bestSwap 116 = .ok (.if_icmp .le 15, 3) := by decide +kernel
theorem dX7_bestSwap_119 : decode cX7_bestSwap 119 = .ok (.iload 9, 2) := by decide +kernel
theorem dX7_bestSwap_121 : decode cX7_bestSwap 121 = .ok (.istore 4, 2) := by decide +kernel
theorem dX7_bestSwap_123 : decode cX7_bestSwap 123 = .ok (.iload 7, 2) := by decide +kernel
theorem dX7_bestSwap_125 : decode cX7_bestSwap 125 = .ok (.istore 5, 2) := by decide +kernel
theorem dX7_bestSwap_127 : decode cX7_bestSwap 127 = .ok (.iload 8, 2) := by decide +kernel
theorem dX7_bestSwap_129 : decode cX7_bestSwap 129 = .ok (.istore 6, 2) := by decide +kernel
theorem dX7_bestSwap_131 : decode cX7_bestSwap 131 = .ok (.iinc 8 1, 3) := by decide +kernel
theorem dX7_bestSwap_134 : decode cX7_bestSwap 134 = .ok (.goto (-48), 3) := by decide +kernel
theorem dX7_bestSwap_137 : decode cX7_bestSwap 137 = .ok (.iinc 7 1, 3) := by decide +kernel
theorem dX7_bestSwap_140 : decode cX7_bestSwap 140 = .ok (.goto (-69), 3) := by decide +kernel
theorem dX7_bestSwap_143 : decode cX7_bestSwap 143 = .ok (.iload 5, 2) := by decide +kernel
theorem dX7_bestSwap_145 : decode cX7_bestSwap 145 = .ok (.iconst (-1), 1) := by decide +kernel
theorem dX7_bestSwap_146 : decode cX7_bestSwap 146 = .ok (.if_icmp .ne 5, 3) := by decide +kernel
theorem dX7_bestSwap_149 : decode cX7_bestSwap 149 = .ok (.iconst (-1), 1) := by decide +kernel
theorem dX7_bestSwap_150 : decode cX7_bestSwap 150 = .ok (.ireturn, 1) := by decide +kernel
theorem dX7_bestSwap_151 : decode cX7_bestSwap 151 = .ok (.iload_n 2, 1) := by decide +kernel
theorem dX7_bestSwap_152 : decode cX7_bestSwap 152 = .ok (.ifCond .ne 8, 3) := by decide +kernel
theorem dX7_bestSwap_155 : decode cX7_bestSwap 155 = .ok (.iload 4, 2) := by decide +kernel
theorem dX7_bestSwap_157 : decode cX7_bestSwap 157 = .ok (.goto 15, 3) := by decide +kernel
theorem dX7_bestSwap_160 : decode cX7_bestSwap 160 = .ok (.iload_n 2, 1) := by decide +kernel
theorem dX7_bestSwap_161 : decode cX7_bestSwap 161 = .ok (.iconst 1, 1) := by decide +kernel
theorem dX7_bestSwap_162 : decode cX7_bestSwap 162 = .ok (.if_icmp .ne 8, 3) := by decide +kernel
theorem dX7_bestSwap_165 : decode cX7_bestSwap 165 = .ok (.iload 5, 2) := by decide +kernel
theorem dX7_bestSwap_167 : decode cX7_bestSwap 167 = .ok (.goto 5, 3) := by decide +kernel
theorem dX7_bestSwap_170 : decode cX7_bestSwap 170 = .ok (.iload 6, 2) := by decide +kernel
theorem dX7_bestSwap_172 : decode cX7_bestSwap 172 = .ok (.ireturn, 1) := by decide +kernel
theorem dX7_needs_0 : decode cX7_needs 0 = .ok (.aload_n 0, 1) := by decide +kernel
theorem dX7_needs_1 : decode cX7_needs 1 = .ok (.getfield 10, 3) := by decide +kernel
theorem dX7_needs_4 : decode cX7_needs 4 = .ok (.iload_n 1, 1) := by decide +kernel
theorem dX7_needs_5 : decode cX7_needs 5 = .ok (.iload_n 2, 1) := by decide +kernel
theorem dX7_needs_6 : decode cX7_needs 6 = .ok (.invokevirtual 166, 3) := by decide +kernel
theorem dX7_needs_9 : decode cX7_needs 9 = .ok (.ifCond .ne 13, 3) := by decide +kernel
theorem dX7_needs_12 : decode cX7_needs 12 = .ok (.new 126, 3) := by decide +kernel
theorem dX7_needs_15 : decode cX7_needs 15 = .ok (.dup, 1) := by decide +kernel
theorem dX7_needs_16 : decode cX7_needs 16 = .ok (.ldc 170, 2) := by decide +kernel
theorem dX7_needs_18 : decode cX7_needs 18 = .ok (.invokespecial 130, 3) := by decide +kernel
theorem dX7_needs_21 : decode cX7_needs 21 = .ok (.athrow, 1) := by decide +kernel
theorem dX7_needs_22 : decode cX7_needs 22 = .ok (.aload_n 0, 1) := by decide +kernel
theorem dX7_needs_23 : decode cX7_needs 23 = .ok (.getfield 48, 3) := by decide +kernel
theorem dX7_needs_26 : decode cX7_needs 26 = .ok (.aload_n 0, 1) := by decide +kernel
theorem dX7_needs_27 : decode cX7_needs 27 = .ok (.getfield 10, 3) := by decide +kernel
theorem dX7_needs_30 : decode cX7_needs 30 = .ok (.aload_n 0, 1) := by decide +kernel
theorem dX7_needs_31 : decode cX7_needs 31 = .ok (.getfield 41, 3) := by decide +kernel
theorem dX7_needs_34 : decode cX7_needs 34 = .ok (.invokevirtual 112, 3) := by decide +kernel
theorem dX7_needs_37 : decode cX7_needs 37 = .ok (.aload_n 0, 1) := by decide +kernel
theorem dX7_needs_38 : decode cX7_needs 38 = .ok (.getfield 41, 3) := by decide +kernel
theorem dX7_needs_41 : decode cX7_needs 41 = .ok (.aload_n 0, 1) := by decide +kernel
theorem dX7_needs_42 : decode cX7_needs 42 = .ok (.getfield 10, 3) := by decide +kernel
theorem dX7_needs_45 : decode cX7_needs 45 = .ok (.getfield 133, 3) := by decide +kernel
theorem dX7_needs_48 : decode cX7_needs 48 = .ok (.iload_n 1, 1) := by decide +kernel
theorem dX7_needs_49 : decode cX7_needs 49 = .ok (.aaload, 1) := by decide +kernel
theorem dX7_needs_50 : decode cX7_needs 50 = .ok (.aload_n 0, 1) := by decide +kernel
theorem dX7_needs_51 : decode cX7_needs 51 = .ok (.getfield 10, 3) := by decide +kernel
theorem dX7_needs_54 : decode cX7_needs 54 = .ok (.getfield 137, 3) := by decide +kernel
theorem dX7_needs_57 : decode cX7_needs 57 = .ok (.invokevirtual 141, 3) := by decide +kernel
theorem dX7_needs_60 : decode cX7_needs 60 = .ok (.aload_n 0, 1) := by decide +kernel
theorem dX7_needs_61 : decode cX7_needs 61 = .ok (.getfield 41, 3) := by decide +kernel
theorem dX7_needs_64 : decode cX7_needs 64 = .ok (.getfield 311, 3) := by decide +kernel
theorem dX7_needs_67 : decode cX7_needs 67 = .ok (.iload_n 2, 1) := by decide +kernel
theorem dX7_needs_68 : decode cX7_needs 68 = .ok (.iaload, 1) := by decide +kernel
theorem dX7_needs_69 : decode cX7_needs 69 = .ok (.istore_n 3, 1) := by decide +kernel
theorem dX7_needs_70 : decode cX7_needs 70 = .ok (.aload_n 0, 1) := by decide +kernel
theorem dX7_needs_71 : decode cX7_needs 71 = .ok (.getfield 41, 3) := by decide +kernel
theorem dX7_needs_74 : decode cX7_needs 74 = .ok (.getfield 148, 3) := by decide +kernel
theorem dX7_needs_77 : decode cX7_needs 77 = .ok (.aload_n 0, 1) := by decide +kernel
theorem dX7_needs_78 : decode cX7_needs 78 = .ok (.getfield 41, 3) := by decide +kernel
theorem dX7_needs_81 : decode cX7_needs 81 = .ok (.getfield 186, 3) := by decide +kernel
theorem dX7_needs_84 : decode cX7_needs 84 = .ok (.iload_n 2, 1) := by decide +kernel
theorem dX7_needs_85 : decode cX7_needs 85 = .ok (.iaload, 1) := by decide +kernel
theorem dX7_needs_86 : decode cX7_needs 86 = .ok (.isub, 1) := by decide +kernel
theorem dX7_needs_87 : decode cX7_needs 87 = .ok (.istore 4, 2) := by decide +kernel
theorem dX7_needs_89 : decode cX7_needs 89 = .ok (.aload_n 0, 1) := by decide +kernel
theorem dX7_needs_90 : decode cX7_needs 90 = .ok (.getfield 41, 3) := by decide +kernel
theorem dX7_needs_93 : decode cX7_needs 93 = .ok (.invokevirtual 157, 3) := by decide +kernel
theorem dX7_needs_96 : decode cX7_needs 96 = .ok (.aload_n 0, 1) := by decide +kernel
theorem dX7_needs_97 : decode cX7_needs 97 = .ok (.getfield 41, 3) := by decide +kernel
theorem dX7_needs_100 : decode cX7_needs 100 = .ok (.getfield 186, 3) := by decide +kernel
theorem dX7_needs_103 : decode cX7_needs 103 = .ok (.iload_n 2, 1) := by decide +kernel
theorem dX7_needs_104 : decode cX7_needs 104 = .ok (.iaload, 1) := by decide +kernel
theorem dX7_needs_105 : decode cX7_needs 105 = .ok (.isub, 1) := by decide +kernel
theorem dX7_needs_106 : decode cX7_needs 106 = .ok (.istore 5, 2) := by decide +kernel
theorem dX7_needs_108 : decode cX7_needs 108 = .ok (.bipush (-15), 2) := by decide +kernel
theorem dX7_needs_110 : decode cX7_needs 110 = .ok (.istore 6, 2) := by decide +kernel
theorem dX7_needs_112 : decode cX7_needs 112 = .ok (.iload 6, 2) := by decide +kernel
theorem dX7_needs_114 : decode cX7_needs 114 = .ok (.bipush 15, 2) := by decide +kernel
theorem dX7_needs_116 : decode cX7_needs 116 = .ok (.if_icmp .gt 62, 3) := by decide +kernel
theorem dX7_needs_119 : decode cX7_needs 119 = .ok (.iload 6, 2) := by decide +kernel
theorem dX7_needs_121 : decode cX7_needs 121 = .ok (.iload_n 3, 1) := by decide +kernel
theorem dX7_needs_122 : decode cX7_needs 122 = .ok (.invokestatic 314, 3) := by decide +kernel
theorem dX7_needs_125 : decode cX7_needs 125 = .ok (.istore 7, 2) := by decide +kernel
theorem dX7_needs_127 : decode cX7_needs 127 = .ok (.aload_n 0, 1) := by decide +kernel
theorem dX7_needs_128 : decode cX7_needs 128 = .ok (.getfield 48, 3) := by decide +kernel
theorem dX7_needs_131 : decode cX7_needs 131 = .ok (.getfield 318, 3) := by decide +kernel
theorem dX7_needs_134 : decode cX7_needs 134 = .ok (.iload_n 1, 1) := by decide +kernel
theorem dX7_needs_135 : decode cX7_needs 135 = .ok (.iload 5, 2) := by decide +kernel
theorem dX7_needs_137 : decode cX7_needs 137 = .ok (.iload 7, 2) := by decide +kernel
theorem dX7_needs_139 : decode cX7_needs 139 = .ok (.iadd, 1) := by decide +kernel
theorem dX7_needs_140 : decode cX7_needs 140 = .ok (.iastore, 1) := by decide +kernel
theorem dX7_needs_141 : decode cX7_needs 141 = .ok (.aload_n 0, 1) := by decide +kernel
theorem dX7_needs_142 : decode cX7_needs 142 = .ok (.getfield 48, 3) := by decide +kernel
theorem dX7_needs_145 : decode cX7_needs 145 = .ok (.getfield 321, 3) := by decide +kernel
theorem dX7_needs_148 : decode cX7_needs 148 = .ok (.iload_n 1, 1) := by decide +kernel
theorem dX7_needs_149 : decode cX7_needs 149 = .ok (.iload 4, 2) := by decide +kernel
theorem dX7_needs_151 : decode cX7_needs 151 = .ok (.iload 7, 2) := by decide +kernel
theorem dX7_needs_153 : decode cX7_needs 153 = .ok (.iadd, 1) := by decide +kernel
theorem dX7_needs_154 : decode cX7_needs 154 = .ok (.iastore, 1) := by decide +kernel
theorem dX7_needs_155 : decode cX7_needs 155 = .ok (.aload_n 0, 1) := by decide +kernel
theorem dX7_needs_156 : decode cX7_needs 156 = .ok (.getfield 48, 3) := by decide +kernel
theorem dX7_needs_159 : decode cX7_needs 159 = .ok (.iload_n 1, 1) := by decide +kernel
theorem dX7_needs_160 : decode cX7_needs 160 = .ok (.invokevirtual 160, 3) := by decide +kernel
theorem dX7_needs_163 : decode cX7_needs 163 = .ok (.ifCond .ne 9, 3) := by decide +kernel
theorem dX7_needs_166 : decode cX7_needs 166 = .ok (.bipush 100, 2) := by decide +kernel
theorem dX7_needs_168 : decode cX7_needs 168 = .ok (.iload 6, 2) := by decide +kernel
theorem dX7_needs_170 : decode cX7_needs 170 = .ok (.iadd, 1) := by decide +kernel
theorem dX7_needs_171 : decode cX7_needs 171 = .ok (.ireturn, 1) := by decide +kernel
theorem dX7_needs_172 : decode cX7_needs 172 = .ok (.iinc 6 1, 3) := by decide +kernel
theorem dX7_needs_175 : decode cX7_needs 175 = .ok (.goto (-63), 3) := by decide +kernel
theorem dX7_needs_178 : decode cX7_needs 178 = .ok (.iconst (-1), 1) := by decide +kernel
theorem dX7_needs_179 : decode cX7_needs 179 = .ok (.ireturn, 1) := by decide +kernel
theorem dX7_behind_0 : decode cX7_behind 0 = .ok (.aload_n 0, 1) := by decide +kernel
theorem dX7_behind_1 : decode cX7_behind 1 = .ok (.getfield 10, 3) := by decide +kernel
theorem dX7_behind_4 : decode cX7_behind 4 = .ok (.iload_n 1, 1) := by decide +kernel
theorem dX7_behind_5 : decode cX7_behind 5 = .ok (.invokevirtual 122, 3) := by decide +kernel
theorem dX7_behind_8 : decode cX7_behind 8 = .ok (.ifCond .ne 13, 3) := by decide +kernel
theorem dX7_behind_11 : decode cX7_behind 11 = .ok (.new 126, 3) := by decide +kernel
theorem dX7_behind_14 : decode cX7_behind 14 = .ok (.dup, 1) := by decide +kernel
theorem dX7_behind_15 : decode cX7_behind 15 = .ok (.ldc 128, 2) := by decide +kernel
theorem dX7_behind_17 : decode cX7_behind 17 = .ok (.invokespecial 130, 3) := by decide +kernel
theorem dX7_behind_20 : decode cX7_behind 20 = .ok (.athrow, 1) := by decide +kernel
theorem dX7_behind_21 : decode cX7_behind 21 = .ok (.aload_n 0, 1) := by decide +kernel
theorem dX7_behind_22 : decode cX7_behind 22 = .ok (.getfield 48, 3) := by decide +kernel
theorem dX7_behind_25 : decode cX7_behind 25 = .ok (.aload_n 0, 1) := by decide +kernel
theorem dX7_behind_26 : decode cX7_behind 26 = .ok (.getfield 10, 3) := by decide +kernel
theorem dX7_behind_29 : decode cX7_behind 29 = .ok (.aload_n 0, 1) := by decide +kernel
theorem dX7_behind_30 : decode cX7_behind 30 = .ok (.getfield 41, 3) := by decide +kernel
theorem dX7_behind_33 : decode cX7_behind 33 = .ok (.invokevirtual 112, 3) := by decide +kernel
theorem dX7_behind_36 : decode cX7_behind 36 = .ok (.aload_n 0, 1) := by decide +kernel
theorem dX7_behind_37 : decode cX7_behind 37 = .ok (.getfield 48, 3) := by decide +kernel
theorem dX7_behind_40 : decode cX7_behind 40 = .ok (.invokevirtual 116, 3) := by decide +kernel
theorem dX7_behind_43 : decode cX7_behind 43 = .ok (.istore_n 2, 1) := by decide +kernel
theorem dX7_behind_44 : decode cX7_behind 44 = .ok (.iload_n 2, 1) := by decide +kernel
theorem dX7_behind_45 : decode cX7_behind 45 = .ok (.iconst (-1), 1) := by decide +kernel
theorem dX7_behind_46 : decode cX7_behind 46 = .ok (.if_icmp .ne 7, 3) := by decide +kernel
theorem dX7_behind_49 : decode cX7_behind 49 = .ok (.iconst 0, 1) := by decide +kernel
theorem dX7_behind_50 : decode cX7_behind 50 = .ok (.goto 22, 3) := by decide +kernel
theorem dX7_behind_53 : decode cX7_behind 53 = .ok (.aload_n 0, 1) := by decide +kernel
theorem dX7_behind_54 : decode cX7_behind 54 = .ok (.getfield 48, 3) := by decide +kernel
theorem dX7_behind_57 : decode cX7_behind 57 = .ok (.getfield 318, 3) := by decide +kernel
theorem dX7_behind_60 : decode cX7_behind 60 = .ok (.iload_n 2, 1) := by decide +kernel
theorem dX7_behind_61 : decode cX7_behind 61 = .ok (.iaload, 1) := by decide +kernel
theorem dX7_behind_62 : decode cX7_behind 62 = .ok (.aload_n 0, 1) := by decide +kernel
theorem dX7_behind_63 : decode cX7_behind 63 = .ok (.getfield 48, 3) := by decide +kernel
theorem dX7_behind_66 : decode cX7_behind 66 = .ok (.getfield 318, 3) := by decide +kernel
theorem dX7_behind_69 : decode cX7_behind 69 = .ok (.iload_n 1, 1) := by decide +kernel
theorem dX7_behind_70 : decode cX7_behind 70 = .ok (.iaload, 1) := by decide +kernel
theorem dX7_behind_71 : decode cX7_behind 71 = .ok (.isub, 1) := by decide +kernel
theorem dX7_behind_72 : decode cX7_behind 72 = .ok (.ireturn, 1) := by decide +kernel
theorem dX7_runScript_0 : decode cX7_runScript 0 = .ok (.iload_n 1, 1) := by decide +kernel
theorem dX7_runScript_1 : decode cX7_runScript 1 = .ok (.iconst 1, 1) := by decide +kernel
theorem dX7_runScript_2 : decode cX7_runScript 2 = .ok (.if_icmp .lt 8, 3) := by decide +kernel
theorem dX7_runScript_5 : decode cX7_runScript 5 = .ok (.iload_n 1, 1) := by decide +kernel
theorem dX7_runScript_6 : decode cX7_runScript 6 = .ok (.iconst 3, 1) := by decide +kernel
theorem dX7_runScript_7 : decode cX7_runScript 7 = .ok (.if_icmp .le 14, 3) := by decide +kernel
theorem dX7_runScript_10 : decode cX7_runScript 10 = .ok (.new 69, 3) := by decide +kernel
theorem dX7_runScript_13 : decode cX7_runScript 13 = .ok (.dup, 1) := by decide +kernel
theorem dX7_runScript_14 : decode cX7_runScript 14 = .ok (.ldc_w 324, 3) := by decide +kernel
theorem dX7_runScript_17 : decode cX7_runScript 17 = .ok (.invokespecial 73, 3) := by decide +kernel
theorem dX7_runScript_20 : decode cX7_runScript 20 = .ok (.athrow, 1) := by decide +kernel
theorem dX7_runScript_21 : decode cX7_runScript 21 = .ok (.lload_n 2, 1) := by decide +kernel
theorem dX7_runScript_22 : decode cX7_runScript 22 = .ok (.lconst 0, 1) := by decide +kernel
theorem dX7_runScript_23 : decode cX7_runScript 23 = .ok (.lcmp, 1) := by decide +kernel
theorem dX7_runScript_24 : decode cX7_runScript 24 = .ok (.ifCond .lt 13, 3) := by decide +kernel
theorem dX7_runScript_27 : decode cX7_runScript 27 = .ok (.iload_n 1, 1) := by decide +kernel
theorem dX7_runScript_28 : decode cX7_runScript 28 = .ok (.lload_n 2, 1) := by decide +kernel
theorem dX7_runScript_29 : decode cX7_runScript 29 = .ok (.invokestatic 326, 3) := by decide +kernel
theorem dX7_runScript_32 : decode cX7_runScript 32 = .ok (.lconst 0, 1) := by decide +kernel
theorem dX7_runScript_33 : decode cX7_runScript 33 = .ok (.lcmp, 1) := by decide +kernel
theorem dX7_runScript_34 : decode cX7_runScript 34 = .ok (.ifCond .eq 14, 3) := by decide +kernel
theorem dX7_runScript_37 : decode cX7_runScript 37 = .ok (.new 69, 3) := by decide +kernel
theorem dX7_runScript_40 : decode cX7_runScript 40 = .ok (.dup, 1) := by decide +kernel
theorem dX7_runScript_41 : decode cX7_runScript 41 = .ok (.ldc_w 330, 3) := by decide +kernel
theorem dX7_runScript_44 : decode cX7_runScript 44 = .ok (.invokespecial 73, 3) := by decide +kernel
theorem dX7_runScript_47 : decode cX7_runScript 47 = .ok (.athrow, 1) := by decide +kernel
theorem dX7_runScript_48 : decode cX7_runScript 48 = .ok (.aload_n 0, 1) := by decide +kernel
theorem dX7_runScript_49 : decode cX7_runScript 49 = .ok (.getfield 59, 3) := by decide +kernel
theorem dX7_runScript_52 : decode cX7_runScript 52 = .ok (.aload_n 0, 1) := by decide +kernel
theorem dX7_runScript_53 : decode cX7_runScript 53 = .ok (.getfield 10, 3) := by decide +kernel
theorem dX7_runScript_56 : decode cX7_runScript 56 = .ok (.invokevirtual 332, 3) := by decide +kernel
theorem dX7_runScript_59 : decode cX7_runScript 59 = .ok (.iconst 0, 1) := by decide +kernel
theorem dX7_runScript_60 : decode cX7_runScript 60 = .ok (.istore 4, 2) := by decide +kernel
theorem dX7_runScript_62 : decode cX7_runScript 62 = .ok (.iload 4, 2) := by decide +kernel
theorem dX7_runScript_64 : decode cX7_runScript 64 = .ok (.iload_n 1, 1) := by decide +kernel
theorem dX7_runScript_65 : decode cX7_runScript 65 = .ok (.if_icmp .ge 63, 3) := by decide +kernel
theorem dX7_runScript_68 : decode cX7_runScript 68 = .ok (.aload_n 0, 1) := by decide +kernel
theorem dX7_runScript_69 : decode cX7_runScript 69 = .ok (.getfield 55, 3) := by decide +kernel
theorem dX7_runScript_72 : decode cX7_runScript 72 = .ok (.iload_n 1, 1) := by decide +kernel
theorem dX7_runScript_73 : decode cX7_runScript 73 = .ok (.iconst 1, 1) := by decide +kernel
theorem dX7_runScript_74 : decode cX7_runScript 74 = .ok (.isub, 1) := by decide +kernel
theorem dX7_runScript_75 : decode cX7_runScript 75 = .ok (.iload 4, 2) := by decide +kernel
theorem dX7_runScript_77 : decode cX7_runScript 77 = .ok (.isub, 1) := by decide +kernel
theorem dX7_runScript_78 : decode cX7_runScript 78 = .ok (.lload_n 2, 1) := by decide +kernel
theorem dX7_runScript_79 : decode cX7_runScript 79 = .ok (.invokestatic 326, 3) := by decide +kernel
theorem dX7_runScript_82 : decode cX7_runScript 82 = .ok (.ldc2_w 334, 3) := by decide +kernel
theorem dX7_runScript_85 : decode cX7_runScript 85 = .ok (.lrem, 1) := by decide +kernel
theorem dX7_runScript_86 : decode cX7_runScript 86 = .ok (.l2i, 1) := by decide +kernel
theorem dX7_runScript_87 : decode cX7_runScript 87 = .ok (.invokevirtual 336, 3) := by decide +kernel
theorem dX7_runScript_90 : decode cX7_runScript 90 = .ok (.aload_n 0, 1) := by decide +kernel
theorem dX7_runScript_91 : decode cX7_runScript 91 = .ok (.getfield 55, 3) := by decide +kernel
theorem dX7_runScript_94 : decode cX7_runScript 94 = .ok (.getfield 339, 3) := by decide +kernel
theorem dX7_runScript_97 : decode cX7_runScript 97 = .ok (.iconst 5, 1) := by decide +kernel
theorem dX7_runScript_98 : decode cX7_runScript 98 = .ok (.if_icmp .gt 10, 3) := by decide +kernel
theorem dX7_runScript_101 : decode cX7_runScript 101 = .ok (.aload_n 0, 1) := by decide +kernel
theorem dX7_runScript_102 : decode cX7_runScript 102 = .ok (.invokevirtual 342, 3) := by decide +kernel
theorem dX7_runScript_105 : decode cX7_runScript 105 = .ok (.goto 7, 3) := by decide +kernel
theorem dX7_runScript_108 : decode cX7_runScript 108 = .ok (.aload_n 0, 1) := by decide +kernel
theorem dX7_runScript_109 : decode cX7_runScript 109 = .ok (.invokevirtual 345, 3) := by decide +kernel
theorem dX7_runScript_112 : decode cX7_runScript 112 = .ok (.istore 5, 2) := by decide +kernel
theorem dX7_runScript_114 : decode cX7_runScript 114 = .ok (.iload 5, 2) := by decide +kernel
theorem dX7_runScript_116 : decode cX7_runScript 116 = .ok (.ifCond .ne 6, 3) := by decide +kernel
theorem dX7_runScript_119 : decode cX7_runScript 119 = .ok (.iload 4, 2) := by decide +kernel
theorem dX7_runScript_121 : decode cX7_runScript 121 = .ok (.ireturn, 1) := by decide +kernel
theorem dX7_runScript_122 : decode cX7_runScript 122 = .ok (.iinc 4 1, 3) := by decide +kernel
theorem dX7_runScript_125 : decode cX7_runScript 125 = .ok (.goto (-63), 3) := by decide +kernel
theorem dX7_runScript_128 : decode cX7_runScript 128 = .ok (.iconst (-1), 1) := by decide +kernel
theorem dX7_runScript_129 : decode cX7_runScript 129 = .ok (.ireturn, 1) := by decide +kernel
theorem dX7_simulate_0 : decode cX7_simulate 0 = .ok (.iload_n 3, 1) := by decide +kernel
theorem dX7_simulate_1 : decode cX7_simulate 1 = .ok (.iconst 1, 1) := by decide +kernel
theorem dX7_simulate_2 : decode cX7_simulate 2 = .ok (.if_icmp .lt 9, 3) := by decide +kernel
theorem dX7_simulate_5 : decode cX7_simulate 5 = .ok (.iload_n 3, 1) := by decide +kernel
theorem dX7_simulate_6 : decode cX7_simulate 6 = .ok (.bipush 60, 2) := by decide +kernel
theorem dX7_simulate_8 : decode cX7_simulate 8 = .ok (.if_icmp .le 14, 3) := by decide +kernel
theorem dX7_simulate_11 : decode cX7_simulate 11 = .ok (.new 69, 3) := by decide +kernel
theorem dX7_simulate_14 : decode cX7_simulate 14 = .ok (.dup, 1) := by decide +kernel
theorem dX7_simulate_15 : decode cX7_simulate 15 = .ok (.ldc_w 348, 3) := by decide +kernel
theorem dX7_simulate_18 : decode cX7_simulate 18 = .ok (.invokespecial 73, 3) := by decide +kernel
theorem dX7_simulate_21 : decode cX7_simulate 21 = .ok (.athrow, 1) := by decide +kernel
theorem dX7_simulate_22 : decode cX7_simulate 22 = .ok (.aload_n 0, 1) := by decide +kernel
theorem dX7_simulate_23 : decode cX7_simulate 23 = .ok (.getfield 59, 3) := by decide +kernel
theorem dX7_simulate_26 : decode cX7_simulate 26 = .ok (.aload_n 0, 1) := by decide +kernel
theorem dX7_simulate_27 : decode cX7_simulate 27 = .ok (.getfield 10, 3) := by decide +kernel
theorem dX7_simulate_30 : decode cX7_simulate 30 = .ok (.invokevirtual 332, 3) := by decide +kernel
theorem dX7_simulate_33 : decode cX7_simulate 33 = .ok (.lload_n 1, 1) := by decide +kernel
theorem dX7_simulate_34 : decode cX7_simulate 34 = .ok (.lstore 4, 2) := by decide +kernel
theorem dX7_simulate_36 : decode cX7_simulate 36 = .ok (.iconst 0, 1) := by decide +kernel
theorem dX7_simulate_37 : decode cX7_simulate 37 = .ok (.istore 6, 2) := by decide +kernel
theorem dX7_simulate_39 : decode cX7_simulate 39 = .ok (.iload 6, 2) := by decide +kernel
theorem dX7_simulate_41 : decode cX7_simulate 41 = .ok (.iload_n 3, 1) := by decide +kernel
theorem dX7_simulate_42 : decode cX7_simulate 42 = .ok (.if_icmp .ge 31, 3) := by decide +kernel
theorem dX7_simulate_45 : decode cX7_simulate 45 = .ok (.lload 4, 2) := by decide +kernel
theorem dX7_simulate_47 : decode cX7_simulate 47 = .ok (.ldc2_w 350, 3) := by decide +kernel
theorem dX7_simulate_50 : decode cX7_simulate 50 = .ok (.lmul, 1) := by decide +kernel
theorem dX7_simulate_51 : decode cX7_simulate 51 = .ok (.ldc2_w 352, 3) := by decide +kernel
theorem dX7_simulate_54 : decode cX7_simulate 54 = .ok (.ladd, 1) := by decide +kernel
theorem dX7_simulate_55 : decode cX7_simulate 55 = .ok (.lstore 4, 2) := by decide +kernel
theorem dX7_simulate_57 : decode cX7_simulate 57 = .ok (.aload_n 0, 1) := by decide +kernel
theorem dX7_simulate_58 : decode cX7_simulate 58 = .ok (.lload 4, 2) := by decide +kernel
theorem dX7_simulate_60 : decode cX7_simulate 60 = .ok (.bipush 33, 2) := by decide +kernel
theorem dX7_simulate_62 : decode cX7_simulate 62 = .ok (.lushr, 1) := by decide +kernel
theorem dX7_simulate_63 : decode cX7_simulate 63 = .ok (.l2i, 1) := by decide +kernel
theorem dX7_simulate_64 : decode cX7_simulate 64 = .ok (.invokevirtual 354, 3) := by decide +kernel
theorem dX7_simulate_67 : decode cX7_simulate 67 = .ok (.iinc 6 1, 3) := by decide +kernel
theorem dX7_simulate_70 : decode cX7_simulate 70 = .ok (.goto (-31), 3) := by decide +kernel
theorem dX7_simulate_73 : decode cX7_simulate 73 = .ok (.aload_n 0, 1) := by decide +kernel
theorem dX7_simulate_74 : decode cX7_simulate 74 = .ok (.getfield 48, 3) := by decide +kernel
theorem dX7_simulate_77 : decode cX7_simulate 77 = .ok (.aload_n 0, 1) := by decide +kernel
theorem dX7_simulate_78 : decode cX7_simulate 78 = .ok (.getfield 59, 3) := by decide +kernel
theorem dX7_simulate_81 : decode cX7_simulate 81 = .ok (.aload_n 0, 1) := by decide +kernel
theorem dX7_simulate_82 : decode cX7_simulate 82 = .ok (.getfield 41, 3) := by decide +kernel
theorem dX7_simulate_85 : decode cX7_simulate 85 = .ok (.invokevirtual 112, 3) := by decide +kernel
theorem dX7_simulate_88 : decode cX7_simulate 88 = .ok (.iconst 0, 1) := by decide +kernel
theorem dX7_simulate_89 : decode cX7_simulate 89 = .ok (.istore 6, 2) := by decide +kernel
theorem dX7_simulate_91 : decode cX7_simulate 91 = .ok (.iconst 0, 1) := by decide +kernel
theorem dX7_simulate_92 : decode cX7_simulate 92 = .ok (.istore 7, 2) := by decide +kernel
theorem dX7_simulate_94 : decode cX7_simulate 94 = .ok (.iload 7, 2) := by decide +kernel
theorem dX7_simulate_96 : decode cX7_simulate 96 = .ok (.aload_n 0, 1) := by decide +kernel
theorem dX7_simulate_97 : decode cX7_simulate 97 = .ok (.getfield 59, 3) := by decide +kernel
theorem dX7_simulate_100 : decode cX7_simulate 100 = .ok (.getfield 99, 3) := by decide +kernel
theorem dX7_simulate_103 : decode cX7_simulate 103 = .ok (.if_icmp .ge 24, 3) := by decide +kernel
theorem dX7_simulate_106 : decode cX7_simulate 106 = .ok (.iload 6, 2) := by decide +kernel
theorem dX7_simulate_108 : decode cX7_simulate 108 = .ok (.aload_n 0, 1) := by decide +kernel
theorem dX7_simulate_109 : decode cX7_simulate 109 = .ok (.getfield 48, 3) := by decide +kernel
theorem dX7_simulate_112 : decode cX7_simulate 112 = .ok (.getfield 318, 3) := by decide +kernel
theorem dX7_simulate_115 : decode cX7_simulate 115 = .ok (.iload 7, 2) := by decide +kernel
theorem dX7_simulate_117 : decode cX7_simulate 117 = .ok (.iaload, 1) := by decide +kernel
theorem dX7_simulate_118 : decode cX7_simulate 118 = .ok (.iadd, 1) := by decide +kernel
theorem dX7_simulate_119 : decode cX7_simulate 119 = .ok (.istore 6, 2) := by decide +kernel
theorem dX7_simulate_121 : decode cX7_simulate 121 = .ok (.iinc 7 1, 3) := by decide +kernel
theorem dX7_simulate_124 : decode cX7_simulate 124 = .ok (.goto (-30), 3) := by decide +kernel
theorem dX7_simulate_127 : decode cX7_simulate 127 = .ok (.iload 6, 2) := by decide +kernel
theorem dX7_simulate_129 : decode cX7_simulate 129 = .ok (.ireturn, 1) := by decide +kernel
theorem dX7_save_0 : decode cX7_save 0 = .ok (.iload_n 1, 1) := by decide +kernel
theorem dX7_save_1 : decode cX7_save 1 = .ok (.ifCond .lt 8, 3) := by decide +kernel
theorem dX7_save_4 : decode cX7_save 4 = .ok (.iload_n 1, 1) := by decide +kernel
theorem dX7_save_5 : decode cX7_save 5 = .ok (.iconst 2, 1) := by decide +kernel
theorem dX7_save_6 : decode cX7_save 6 = .ok (.if_icmp .lt 14, 3) := by decide +kernel
theorem dX7_save_9 : decode cX7_save 9 = .ok (.new 126, 3) := by decide +kernel
theorem dX7_save_12 : decode cX7_save 12 = .ok (.dup, 1) := by decide +kernel
theorem dX7_save_13 : decode cX7_save 13 = .ok (.ldc_w 357, 3) := by decide +kernel
theorem dX7_save_16 : decode cX7_save 16 = .ok (.invokespecial 130, 3) := by decide +kernel
theorem dX7_save_19 : decode cX7_save 19 = .ok (.athrow, 1) := by decide +kernel
theorem dX7_save_20 : decode cX7_save 20 = .ok (.aload_n 0, 1) := by decide +kernel
theorem dX7_save_21 : decode cX7_save 21 = .ok (.getfield 23, 3) := by decide +kernel
theorem dX7_save_24 : decode cX7_save 24 = .ok (.iload_n 1, 1) := by decide +kernel
theorem dX7_save_25 : decode cX7_save 25 = .ok (.aaload, 1) := by decide +kernel
theorem dX7_save_26 : decode cX7_save 26 = .ok (.aload_n 0, 1) := by decide +kernel
theorem dX7_save_27 : decode cX7_save 27 = .ok (.getfield 10, 3) := by decide +kernel
theorem dX7_save_30 : decode cX7_save 30 = .ok (.invokevirtual 332, 3) := by decide +kernel
theorem dX7_save_33 : decode cX7_save 33 = .ok (.aload_n 0, 1) := by decide +kernel
theorem dX7_save_34 : decode cX7_save 34 = .ok (.getfield 27, 3) := by decide +kernel
theorem dX7_save_37 : decode cX7_save 37 = .ok (.iload_n 1, 1) := by decide +kernel
theorem dX7_save_38 : decode cX7_save 38 = .ok (.iconst 1, 1) := by decide +kernel
theorem dX7_save_39 : decode cX7_save 39 = .ok (.bastore, 1) := by decide +kernel
theorem dX7_save_40 : decode cX7_save 40 = .ok (.aload_n 0, 1) := by decide +kernel
theorem dX7_save_41 : decode cX7_save 41 = .ok (.getfield 10, 3) := by decide +kernel
theorem dX7_save_44 : decode cX7_save 44 = .ok (.getfield 99, 3) := by decide +kernel
theorem dX7_save_47 : decode cX7_save 47 = .ok (.ireturn, 1) := by decide +kernel
theorem dX7_restore_0 : decode cX7_restore 0 = .ok (.iload_n 1, 1) := by decide +kernel
theorem dX7_restore_1 : decode cX7_restore 1 = .ok (.ifCond .lt 8, 3) := by decide +kernel
theorem dX7_restore_4 : decode cX7_restore 4 = .ok (.iload_n 1, 1) := by decide +kernel
theorem dX7_restore_5 : decode cX7_restore 5 = .ok (.iconst 2, 1) := by decide +kernel
theorem dX7_restore_6 : decode cX7_restore 6 = .ok (.if_icmp .lt 14, 3) := by decide +kernel
theorem dX7_restore_9 : decode cX7_restore 9 = .ok (.new 126, 3) := by decide +kernel
theorem dX7_restore_12 : decode cX7_restore 12 = .ok (.dup, 1) := by decide +kernel
theorem dX7_restore_13 : decode cX7_restore 13 = .ok (.ldc_w 357, 3) := by decide +kernel
theorem dX7_restore_16 : decode cX7_restore 16 = .ok (.invokespecial 130, 3) := by decide +kernel
theorem dX7_restore_19 : decode cX7_restore 19 = .ok (.athrow, 1) := by decide +kernel
theorem dX7_restore_20 : decode cX7_restore 20 = .ok (.aload_n 0, 1) := by decide +kernel
theorem dX7_restore_21 : decode cX7_restore 21 = .ok (.getfield 27, 3) := by decide +kernel
theorem dX7_restore_24 : decode cX7_restore 24 = .ok (.iload_n 1, 1) := by decide +kernel
theorem dX7_restore_25 : decode cX7_restore 25 = .ok (.baload, 1) := by decide +kernel
theorem dX7_restore_26 : decode cX7_restore 26 = .ok (.ifCond .ne 14, 3) := by decide +kernel
theorem dX7_restore_29 : decode cX7_restore 29 = .ok (.new 80, 3) := by decide +kernel
theorem dX7_restore_32 : decode cX7_restore 32 = .ok (.dup, 1) := by decide +kernel
theorem dX7_restore_33 : decode cX7_restore 33 = .ok (.ldc_w 359, 3) := by decide +kernel
theorem dX7_restore_36 : decode cX7_restore 36 = .ok (.invokespecial 84, 3) := by decide +kernel
theorem dX7_restore_39 : decode cX7_restore 39 = .ok (.athrow, 1) := by decide +kernel
theorem dX7_restore_40 : decode cX7_restore 40 = .ok (.aload_n 0, 1) := by decide +kernel
theorem dX7_restore_41 : decode cX7_restore 41 = .ok (.getfield 10, 3) := by decide +kernel
theorem dX7_restore_44 : decode cX7_restore 44 = .ok (.aload_n 0, 1) := by decide +kernel
theorem dX7_restore_45 : decode cX7_restore 45 = .ok (.getfield 23, 3) := by decide +kernel
theorem dX7_restore_48 : decode cX7_restore 48 = .ok (.iload_n 1, 1) := by decide +kernel
theorem dX7_restore_49 : decode cX7_restore 49 = .ok (.aaload, 1) := by decide +kernel
theorem dX7_restore_50 : decode cX7_restore 50 = .ok (.invokevirtual 332, 3) := by decide +kernel
theorem dX7_restore_53 : decode cX7_restore 53 = .ok (.aload_n 0, 1) := by decide +kernel
theorem dX7_restore_54 : decode cX7_restore 54 = .ok (.getfield 19, 3) := by decide +kernel
theorem dX7_restore_57 : decode cX7_restore 57 = .ok (.invokevirtual 361, 3) := by decide +kernel
theorem dX7_restore_60 : decode cX7_restore 60 = .ok (.aload_n 0, 1) := by decide +kernel
theorem dX7_restore_61 : decode cX7_restore 61 = .ok (.getfield 10, 3) := by decide +kernel
theorem dX7_restore_64 : decode cX7_restore 64 = .ok (.getfield 99, 3) := by decide +kernel
theorem dX7_restore_67 : decode cX7_restore 67 = .ok (.ireturn, 1) := by decide +kernel
theorem dX7_checkCall_0 : decode cX7_checkCall 0 = .ok (.aload_n 0, 1) := by decide +kernel
theorem dX7_checkCall_1 : decode cX7_checkCall 1 = .ok (.getfield 10, 3) := by decide +kernel
theorem dX7_checkCall_4 : decode cX7_checkCall 4 = .ok (.iload_n 1, 1) := by decide +kernel
theorem dX7_checkCall_5 : decode cX7_checkCall 5 = .ok (.iload_n 2, 1) := by decide +kernel
theorem dX7_checkCall_6 : decode cX7_checkCall 6 = .ok (.iload_n 3, 1) := by decide +kernel
theorem dX7_checkCall_7 : decode cX7_checkCall 7 = .ok (.invokevirtual 198, 3) := by decide +kernel
theorem dX7_checkCall_10 : decode cX7_checkCall 10 = .ok (.ifCond .ne 13, 3) := by decide +kernel
theorem dX7_checkCall_13 : decode cX7_checkCall 13 = .ok (.new 126, 3) := by decide +kernel
theorem dX7_checkCall_16 : decode cX7_checkCall 16 = .ok (.dup, 1) := by decide +kernel
theorem dX7_checkCall_17 : decode cX7_checkCall 17 = .ok (.ldc 202, 2) := by decide +kernel
theorem dX7_checkCall_19 : decode cX7_checkCall 19 = .ok (.invokespecial 130, 3) := by decide +kernel
theorem dX7_checkCall_22 : decode cX7_checkCall 22 = .ok (.athrow, 1) := by decide +kernel
theorem dX7_checkCall_23 : decode cX7_checkCall 23 = .ok (.iload 4, 2) := by decide +kernel
theorem dX7_checkCall_25 : decode cX7_checkCall 25 = .ok (.ifCond .lt 9, 3) := by decide +kernel
theorem dX7_checkCall_28 : decode cX7_checkCall 28 = .ok (.iload 4, 2) := by decide +kernel
theorem dX7_checkCall_30 : decode cX7_checkCall 30 = .ok (.iconst 3, 1) := by decide +kernel
theorem dX7_checkCall_31 : decode cX7_checkCall 31 = .ok (.if_icmp .le 14, 3) := by decide +kernel
theorem dX7_checkCall_34 : decode cX7_checkCall 34 = .ok (.new 69, 3) := by decide +kernel
theorem dX7_checkCall_37 : decode cX7_checkCall 37 = .ok (.dup, 1) := by decide +kernel
theorem dX7_checkCall_38 : decode cX7_checkCall 38 = .ok (.ldc_w 364, 3) := by decide +kernel
theorem dX7_checkCall_41 : decode cX7_checkCall 41 = .ok (.invokespecial 73, 3) := by decide +kernel
theorem dX7_checkCall_44 : decode cX7_checkCall 44 = .ok (.athrow, 1) := by decide +kernel
theorem dX7_checkCall_45 : decode cX7_checkCall 45 = .ok (.aload_n 0, 1) := by decide +kernel
theorem dX7_checkCall_46 : decode cX7_checkCall 46 = .ok (.getfield 10, 3) := by decide +kernel
theorem dX7_checkCall_49 : decode cX7_checkCall 49 = .ok (.getfield 133, 3) := by decide +kernel
theorem dX7_checkCall_52 : decode cX7_checkCall 52 = .ok (.iload_n 1, 1) := by decide +kernel
theorem dX7_checkCall_53 : decode cX7_checkCall 53 = .ok (.aaload, 1) := by decide +kernel
theorem dX7_checkCall_54 : decode cX7_checkCall 54 = .ok (.iload_n 2, 1) := by decide +kernel
theorem dX7_checkCall_55 : decode cX7_checkCall 55 = .ok (.iload_n 3, 1) := by decide +kernel
theorem dX7_checkCall_56 : decode cX7_checkCall 56 = .ok (.iload 4, 2) := by decide +kernel
theorem dX7_checkCall_58 : decode cX7_checkCall 58 = .ok (.invokevirtual 366, 3) := by decide +kernel
theorem dX7_checkCall_61 : decode cX7_checkCall 61 = .ok (.ifCond .ne 14, 3) := by decide +kernel
theorem dX7_checkCall_64 : decode cX7_checkCall 64 = .ok (.new 80, 3) := by decide +kernel
theorem dX7_checkCall_67 : decode cX7_checkCall 67 = .ok (.dup, 1) := by decide +kernel
theorem dX7_checkCall_68 : decode cX7_checkCall 68 = .ok (.ldc_w 369, 3) := by decide +kernel
theorem dX7_checkCall_71 : decode cX7_checkCall 71 = .ok (.invokespecial 84, 3) := by decide +kernel
theorem dX7_checkCall_74 : decode cX7_checkCall 74 = .ok (.athrow, 1) := by decide +kernel
theorem dX7_checkCall_75 : decode cX7_checkCall 75 = .ok (.return_, 1) := by decide +kernel
theorem dX7_lesserParts_0 : decode cX7_lesserParts 0 = .ok (.iconst 0, 1) := by decide +kernel
theorem dX7_lesserParts_1 : decode cX7_lesserParts 1 = .ok (.istore_n 1, 1) := by decide +kernel
theorem dX7_lesserParts_2 : decode cX7_lesserParts 2 = .ok (.iconst 0, 1) := by decide +kernel
theorem dX7_lesserParts_3 : decode cX7_lesserParts 3 = .ok (.istore_n 2, 1) := by decide +kernel
theorem dX7_lesserParts_4 : decode cX7_lesserParts 4 = .ok (.iload_n 2, 1) := by decide +kernel
theorem dX7_lesserParts_5 : decode cX7_lesserParts 5 = .ok (.aload_n 0, 1) := by decide +kernel
theorem dX7_lesserParts_6 : decode cX7_lesserParts 6 = .ok (.getfield 10, 3) := by decide +kernel
theorem dX7_lesserParts_9 : decode cX7_lesserParts 9 = .ok (.getfield 99, 3) := by decide +kernel
theorem dX7_lesserParts_12 : decode cX7_lesserParts 12 = .ok (.if_icmp .ge 42, 3) := by decide +kernel
theorem dX7_lesserParts_15 : decode cX7_lesserParts 15 = .ok (.aload_n 0, 1) := by decide +kernel
theorem dX7_lesserParts_16 : decode cX7_lesserParts 16 = .ok (.getfield 41, 3) := by decide +kernel
theorem dX7_lesserParts_19 : decode cX7_lesserParts 19 = .ok (.aload_n 0, 1) := by decide +kernel
theorem dX7_lesserParts_20 : decode cX7_lesserParts 20 = .ok (.getfield 10, 3) := by decide +kernel
theorem dX7_lesserParts_23 : decode cX7_lesserParts 23 = .ok (.getfield 133, 3) := by decide +kernel
theorem dX7_lesserParts_26 : decode cX7_lesserParts 26 = .ok (.iload_n 2, 1) := by decide +kernel
theorem dX7_lesserParts_27 : decode cX7_lesserParts 27 = .ok (.aaload, 1) := by decide +kernel
theorem dX7_lesserParts_28 : decode cX7_lesserParts 28 = .ok (.aload_n 0, 1) := by decide +kernel
theorem dX7_lesserParts_29 : decode cX7_lesserParts 29 = .ok (.getfield 10, 3) := by decide +kernel
theorem dX7_lesserParts_32 : decode cX7_lesserParts 32 = .ok (.getfield 137, 3) := by decide +kernel
theorem dX7_lesserParts_35 : decode cX7_lesserParts 35 = .ok (.invokevirtual 141, 3) := by decide +kernel
theorem dX7_lesserParts_38 : decode cX7_lesserParts 38 = .ok (.iload_n 1, 1) := by decide +kernel
theorem dX7_lesserParts_39 : decode cX7_lesserParts 39 = .ok (.aload_n 0, 1) := by decide +kernel
theorem dX7_lesserParts_40 : decode cX7_lesserParts 40 = .ok (.getfield 41, 3) := by decide +kernel
theorem dX7_lesserParts_43 : decode cX7_lesserParts 43 = .ok (.getfield 371, 3) := by decide +kernel
theorem dX7_lesserParts_46 : decode cX7_lesserParts 46 = .ok (.iadd, 1) := by decide +kernel
theorem dX7_lesserParts_47 : decode cX7_lesserParts 47 = .ok (.istore_n 1, 1) := by decide +kernel
theorem dX7_lesserParts_48 : decode cX7_lesserParts 48 = .ok (.iinc 2 1, 3) := by decide +kernel
theorem dX7_lesserParts_51 : decode cX7_lesserParts 51 = .ok (.goto (-47), 3) := by decide +kernel
theorem dX7_lesserParts_54 : decode cX7_lesserParts 54 = .ok (.iload_n 1, 1) := by decide +kernel
theorem dX7_lesserParts_55 : decode cX7_lesserParts 55 = .ok (.ireturn, 1) := by decide +kernel
theorem dX7_totalOfSwap_0 : decode cX7_totalOfSwap 0 = .ok (.aload_n 0, 1) := by decide +kernel
theorem dX7_totalOfSwap_1 : decode cX7_totalOfSwap 1 = .ok (.getfield 65, 3) := by decide +kernel
theorem dX7_totalOfSwap_4 : decode cX7_totalOfSwap 4 = .ok (.iload_n 2, 1) := by decide +kernel
theorem dX7_totalOfSwap_5 : decode cX7_totalOfSwap 5 = .ok (.aload_n 1, 1) := by decide +kernel
theorem dX7_totalOfSwap_6 : decode cX7_totalOfSwap 6 = .ok (.iload_n 3, 1) := by decide +kernel
theorem dX7_totalOfSwap_7 : decode cX7_totalOfSwap 7 = .ok (.invokevirtual 301, 3) := by decide +kernel
theorem dX7_totalOfSwap_10 : decode cX7_totalOfSwap 10 = .ok (.aload_n 0, 1) := by decide +kernel
theorem dX7_totalOfSwap_11 : decode cX7_totalOfSwap 11 = .ok (.getfield 65, 3) := by decide +kernel
theorem dX7_totalOfSwap_14 : decode cX7_totalOfSwap 14 = .ok (.iload_n 3, 1) := by decide +kernel
theorem dX7_totalOfSwap_15 : decode cX7_totalOfSwap 15 = .ok (.aload_n 1, 1) := by decide +kernel
theorem dX7_totalOfSwap_16 : decode cX7_totalOfSwap 16 = .ok (.iload_n 2, 1) := by decide +kernel
theorem dX7_totalOfSwap_17 : decode cX7_totalOfSwap 17 = .ok (.invokevirtual 301, 3) := by decide +kernel
theorem dX7_totalOfSwap_20 : decode cX7_totalOfSwap 20 = .ok (.aload_n 0, 1) := by decide +kernel
theorem dX7_totalOfSwap_21 : decode cX7_totalOfSwap 21 = .ok (.getfield 41, 3) := by decide +kernel
theorem dX7_totalOfSwap_24 : decode cX7_totalOfSwap 24 = .ok (.aload_n 0, 1) := by decide +kernel
theorem dX7_totalOfSwap_25 : decode cX7_totalOfSwap 25 = .ok (.getfield 65, 3) := by decide +kernel
theorem dX7_totalOfSwap_28 : decode cX7_totalOfSwap 28 = .ok (.aload_n 0, 1) := by decide +kernel
theorem dX7_totalOfSwap_29 : decode cX7_totalOfSwap 29 = .ok (.getfield 10, 3) := by decide +kernel
theorem dX7_totalOfSwap_32 : decode cX7_totalOfSwap 32 = .ok (.getfield 137, 3) := by decide +kernel
theorem dX7_totalOfSwap_35 : decode cX7_totalOfSwap 35 = .ok (.invokevirtual 141, 3) := by decide +kernel
theorem dX7_totalOfSwap_38 : decode cX7_totalOfSwap 38 = .ok (.aload_n 0, 1) := by decide +kernel
theorem dX7_totalOfSwap_39 : decode cX7_totalOfSwap 39 = .ok (.getfield 65, 3) := by decide +kernel
theorem dX7_totalOfSwap_42 : decode cX7_totalOfSwap 42 = .ok (.iload_n 2, 1) := by decide +kernel
theorem dX7_totalOfSwap_43 : decode cX7_totalOfSwap 43 = .ok (.aload_n 1, 1) := by decide +kernel
theorem dX7_totalOfSwap_44 : decode cX7_totalOfSwap 44 = .ok (.iload_n 2, 1) := by decide +kernel
theorem dX7_totalOfSwap_45 : decode cX7_totalOfSwap 45 = .ok (.invokevirtual 301, 3) := by decide +kernel
theorem dX7_totalOfSwap_48 : decode cX7_totalOfSwap 48 = .ok (.aload_n 0, 1) := by decide +kernel
theorem dX7_totalOfSwap_49 : decode cX7_totalOfSwap 49 = .ok (.getfield 65, 3) := by decide +kernel
theorem dX7_totalOfSwap_52 : decode cX7_totalOfSwap 52 = .ok (.iload_n 3, 1) := by decide +kernel
theorem dX7_totalOfSwap_53 : decode cX7_totalOfSwap 53 = .ok (.aload_n 1, 1) := by decide +kernel
theorem dX7_totalOfSwap_54 : decode cX7_totalOfSwap 54 = .ok (.iload_n 3, 1) := by decide +kernel
theorem dX7_totalOfSwap_55 : decode cX7_totalOfSwap 55 = .ok (.invokevirtual 301, 3) := by decide +kernel
theorem dX7_totalOfSwap_58 : decode cX7_totalOfSwap 58 = .ok (.aload_n 0, 1) := by decide +kernel
theorem dX7_totalOfSwap_59 : decode cX7_totalOfSwap 59 = .ok (.getfield 41, 3) := by decide +kernel
theorem dX7_totalOfSwap_62 : decode cX7_totalOfSwap 62 = .ok (.invokevirtual 157, 3) := by decide +kernel
theorem dX7_totalOfSwap_65 : decode cX7_totalOfSwap 65 = .ok (.ireturn, 1) := by decide +kernel
theorem dX7_acts_0 : decode cX7_acts 0 = .ok (.aload_n 0, 1) := by decide +kernel
theorem dX7_acts_1 : decode cX7_acts 1 = .ok (.getfield 55, 3) := by decide +kernel
theorem dX7_acts_4 : decode cX7_acts 4 = .ok (.getfield 374, 3) := by decide +kernel
theorem dX7_acts_7 : decode cX7_acts 7 = .ok (.istore_n 1, 1) := by decide +kernel
theorem dX7_acts_8 : decode cX7_acts 8 = .ok (.aload_n 0, 1) := by decide +kernel
theorem dX7_acts_9 : decode cX7_acts 9 = .ok (.getfield 55, 3) := by decide +kernel
theorem dX7_acts_12 : decode cX7_acts 12 = .ok (.getfield 377, 3) := by decide +kernel
theorem dX7_acts_15 : decode cX7_acts 15 = .ok (.istore_n 2, 1) := by decide +kernel
theorem dX7_acts_16 : decode cX7_acts 16 = .ok (.aload_n 0, 1) := by decide +kernel
theorem dX7_acts_17 : decode cX7_acts 17 = .ok (.getfield 55, 3) := by decide +kernel
theorem dX7_acts_20 : decode cX7_acts 20 = .ok (.getfield 339, 3) := by decide +kernel
theorem dX7_acts_23 : decode cX7_acts 23 = .ok (.tableswitch 167 1 5 #[33, 63, 87, 117, 145], 33) := by decide +kernel
theorem dX7_acts_56 : decode cX7_acts 56 = .ok (.iload_n 2, 1) := by decide +kernel
theorem dX7_acts_57 : decode cX7_acts 57 = .ok (.iconst 1, 1) := by decide +kernel
theorem dX7_acts_58 : decode cX7_acts 58 = .ok (.if_icmp .gt 26, 3) := by decide +kernel
theorem dX7_acts_61 : decode cX7_acts 61 = .ok (.aload_n 0, 1) := by decide +kernel
theorem dX7_acts_62 : decode cX7_acts 62 = .ok (.getfield 59, 3) := by decide +kernel
theorem dX7_acts_65 : decode cX7_acts 65 = .ok (.iload_n 1, 1) := by decide +kernel
theorem dX7_acts_66 : decode cX7_acts 66 = .ok (.aload_n 0, 1) := by decide +kernel
theorem dX7_acts_67 : decode cX7_acts 67 = .ok (.getfield 55, 3) := by decide +kernel
theorem dX7_acts_70 : decode cX7_acts 70 = .ok (.invokevirtual 380, 3) := by decide +kernel
theorem dX7_acts_73 : decode cX7_acts 73 = .ok (.iload_n 2, 1) := by decide +kernel
theorem dX7_acts_74 : decode cX7_acts 74 = .ok (.invokevirtual 268, 3) := by decide +kernel
theorem dX7_acts_77 : decode cX7_acts 77 = .ok (.ifCond .eq 7, 3) := by decide +kernel
theorem dX7_acts_80 : decode cX7_acts 80 = .ok (.iconst 1, 1) := by decide +kernel
theorem dX7_acts_81 : decode cX7_acts 81 = .ok (.goto 4, 3) := by decide +kernel
theorem dX7_acts_84 : decode cX7_acts 84 = .ok (.iconst 0, 1) := by decide +kernel
theorem dX7_acts_85 : decode cX7_acts 85 = .ok (.ireturn, 1) := by decide +kernel
theorem dX7_acts_86 : decode cX7_acts 86 = .ok (.aload_n 0, 1) := by decide +kernel
theorem dX7_acts_87 : decode cX7_acts 87 = .ok (.getfield 59, 3) := by decide +kernel
theorem dX7_acts_90 : decode cX7_acts 90 = .ok (.iload_n 1, 1) := by decide +kernel
theorem dX7_acts_91 : decode cX7_acts 91 = .ok (.aload_n 0, 1) := by decide +kernel
theorem dX7_acts_92 : decode cX7_acts 92 = .ok (.getfield 55, 3) := by decide +kernel
theorem dX7_acts_95 : decode cX7_acts 95 = .ok (.getfield 383, 3) := by decide +kernel
theorem dX7_acts_98 : decode cX7_acts 98 = .ok (.aload_n 0, 1) := by decide +kernel
theorem dX7_acts_99 : decode cX7_acts 99 = .ok (.getfield 55, 3) := by decide +kernel
theorem dX7_acts_102 : decode cX7_acts 102 = .ok (.getfield 386, 3) := by decide +kernel
theorem dX7_acts_105 : decode cX7_acts 105 = .ok (.iload_n 2, 1) := by decide +kernel
theorem dX7_acts_106 : decode cX7_acts 106 = .ok (.invokevirtual 261, 3) := by decide +kernel
theorem dX7_acts_109 : decode cX7_acts 109 = .ok (.ireturn, 1) := by decide +kernel
theorem dX7_acts_110 : decode cX7_acts 110 = .ok (.iload_n 2, 1) := by decide +kernel
theorem dX7_acts_111 : decode cX7_acts 111 = .ok (.iconst 1, 1) := by decide +kernel
theorem dX7_acts_112 : decode cX7_acts 112 = .ok (.if_icmp .gt 26, 3) := by decide +kernel
theorem dX7_acts_115 : decode cX7_acts 115 = .ok (.aload_n 0, 1) := by decide +kernel
theorem dX7_acts_116 : decode cX7_acts 116 = .ok (.getfield 59, 3) := by decide +kernel
theorem dX7_acts_119 : decode cX7_acts 119 = .ok (.iload_n 1, 1) := by decide +kernel
theorem dX7_acts_120 : decode cX7_acts 120 = .ok (.aload_n 0, 1) := by decide +kernel
theorem dX7_acts_121 : decode cX7_acts 121 = .ok (.getfield 55, 3) := by decide +kernel
theorem dX7_acts_124 : decode cX7_acts 124 = .ok (.invokevirtual 380, 3) := by decide +kernel
theorem dX7_acts_127 : decode cX7_acts 127 = .ok (.iload_n 2, 1) := by decide +kernel
theorem dX7_acts_128 : decode cX7_acts 128 = .ok (.invokevirtual 265, 3) := by decide +kernel
theorem dX7_acts_131 : decode cX7_acts 131 = .ok (.ifCond .eq 7, 3) := by decide +kernel
theorem dX7_acts_134 : decode cX7_acts 134 = .ok (.iconst 1, 1) := by decide +kernel
theorem dX7_acts_135 : decode cX7_acts 135 = .ok (.goto 4, 3) := by decide +kernel
theorem dX7_acts_138 : decode cX7_acts 138 = .ok (.iconst 0, 1) := by decide +kernel
theorem dX7_acts_139 : decode cX7_acts 139 = .ok (.ireturn, 1) := by decide +kernel
theorem dX7_acts_140 : decode cX7_acts 140 = .ok (.aload_n 0, 1) := by decide +kernel
theorem dX7_acts_141 : decode cX7_acts 141 = .ok (.getfield 55, 3) := by decide +kernel
theorem dX7_acts_144 : decode cX7_acts 144 = .ok (.invokevirtual 380, 3) := by decide +kernel
theorem dX7_acts_147 : decode cX7_acts 147 = .ok (.ifCond .ne 19, 3) := by decide +kernel
theorem dX7_acts_150 : decode cX7_acts 150 = .ok (.aload_n 0, 1) := by decide +kernel
theorem dX7_acts_151 : decode cX7_acts 151 = .ok (.getfield 59, 3) := by decide +kernel
theorem dX7_acts_154 : decode cX7_acts 154 = .ok (.iload_n 1, 1) := by decide +kernel
theorem dX7_acts_155 : decode cX7_acts 155 = .ok (.iload_n 2, 1) := by decide +kernel
theorem dX7_acts_156 : decode cX7_acts 156 = .ok (.invokevirtual 276, 3) := by decide +kernel
theorem dX7_acts_159 : decode cX7_acts 159 = .ok (.ifCond .eq 7, 3) := by decide +kernel
theorem dX7_acts_162 : decode cX7_acts 162 = .ok (.iconst 1, 1) := by decide +kernel
theorem dX7_acts_163 : decode cX7_acts 163 = .ok (.goto 4, 3) := by decide +kernel
theorem dX7_acts_166 : decode cX7_acts 166 = .ok (.iconst 0, 1) := by decide +kernel
theorem dX7_acts_167 : decode cX7_acts 167 = .ok (.ireturn, 1) := by decide +kernel
theorem dX7_acts_168 : decode cX7_acts 168 = .ok (.aload_n 0, 1) := by decide +kernel
theorem dX7_acts_169 : decode cX7_acts 169 = .ok (.getfield 59, 3) := by decide +kernel
theorem dX7_acts_172 : decode cX7_acts 172 = .ok (.aload_n 0, 1) := by decide +kernel
theorem dX7_acts_173 : decode cX7_acts 173 = .ok (.getfield 55, 3) := by decide +kernel
theorem dX7_acts_176 : decode cX7_acts 176 = .ok (.getfield 374, 3) := by decide +kernel
theorem dX7_acts_179 : decode cX7_acts 179 = .ok (.aload_n 0, 1) := by decide +kernel
theorem dX7_acts_180 : decode cX7_acts 180 = .ok (.getfield 55, 3) := by decide +kernel
theorem dX7_acts_183 : decode cX7_acts 183 = .ok (.invokevirtual 389, 3) := by decide +kernel
theorem dX7_acts_186 : decode cX7_acts 186 = .ok (.invokevirtual 284, 3) := by decide +kernel
theorem dX7_acts_189 : decode cX7_acts 189 = .ok (.ireturn, 1) := by decide +kernel
theorem dX7_acts_190 : decode cX7_acts 190 = .ok (.iconst 0, 1) := by decide +kernel
theorem dX7_acts_191 : decode cX7_acts 191 = .ok (.ireturn, 1) := by decide +kernel
theorem dX7_holds_0 : decode cX7_holds 0 = .ok (.aload_n 0, 1) := by decide +kernel
theorem dX7_holds_1 : decode cX7_holds 1 = .ok (.getfield 55, 3) := by decide +kernel
theorem dX7_holds_4 : decode cX7_holds 4 = .ok (.getfield 374, 3) := by decide +kernel
theorem dX7_holds_7 : decode cX7_holds 7 = .ok (.istore_n 1, 1) := by decide +kernel
theorem dX7_holds_8 : decode cX7_holds 8 = .ok (.aload_n 0, 1) := by decide +kernel
theorem dX7_holds_9 : decode cX7_holds 9 = .ok (.getfield 55, 3) := by decide +kernel
theorem dX7_holds_12 : decode cX7_holds 12 = .ok (.getfield 339, 3) := by decide +kernel
theorem dX7_holds_15 : decode cX7_holds 15 = .ok (.bipush 9, 2) := by decide +kernel
theorem dX7_holds_17 : decode cX7_holds 17 = .ok (.if_icmp .ne 40, 3) := by decide +kernel
theorem dX7_holds_20 : decode cX7_holds 20 = .ok (.iload_n 1, 1) := by decide +kernel
theorem dX7_holds_21 : decode cX7_holds 21 = .ok (.ifCond .ne 34, 3) := by decide +kernel
theorem dX7_holds_24 : decode cX7_holds 24 = .ok (.aload_n 0, 1) := by decide +kernel
theorem dX7_holds_25 : decode cX7_holds 25 = .ok (.getfield 55, 3) := by decide +kernel
theorem dX7_holds_28 : decode cX7_holds 28 = .ok (.getfield 377, 3) := by decide +kernel
theorem dX7_holds_31 : decode cX7_holds 31 = .ok (.ifCond .ne 24, 3) := by decide +kernel
theorem dX7_holds_34 : decode cX7_holds 34 = .ok (.aload_n 0, 1) := by decide +kernel
theorem dX7_holds_35 : decode cX7_holds 35 = .ok (.getfield 59, 3) := by decide +kernel
theorem dX7_holds_38 : decode cX7_holds 38 = .ok (.invokevirtual 102, 3) := by decide +kernel
theorem dX7_holds_41 : decode cX7_holds 41 = .ok (.aload_n 0, 1) := by decide +kernel
theorem dX7_holds_42 : decode cX7_holds 42 = .ok (.getfield 55, 3) := by decide +kernel
theorem dX7_holds_45 : decode cX7_holds 45 = .ok (.invokevirtual 380, 3) := by decide +kernel
theorem dX7_holds_48 : decode cX7_holds 48 = .ok (.if_icmp .gt 7, 3) := by decide +kernel
theorem dX7_holds_51 : decode cX7_holds 51 = .ok (.iconst 1, 1) := by decide +kernel
theorem dX7_holds_52 : decode cX7_holds 52 = .ok (.goto 4, 3) := by decide +kernel
theorem dX7_holds_55 : decode cX7_holds 55 = .ok (.iconst 0, 1) := by decide +kernel
theorem dX7_holds_56 : decode cX7_holds 56 = .ok (.ireturn, 1) := by decide +kernel
theorem dX7_holds_57 : decode cX7_holds 57 = .ok (.aload_n 0, 1) := by decide +kernel
theorem dX7_holds_58 : decode cX7_holds 58 = .ok (.getfield 59, 3) := by decide +kernel
theorem dX7_holds_61 : decode cX7_holds 61 = .ok (.iload_n 1, 1) := by decide +kernel
theorem dX7_holds_62 : decode cX7_holds 62 = .ok (.invokevirtual 122, 3) := by decide +kernel
theorem dX7_holds_65 : decode cX7_holds 65 = .ok (.ifCond .ne 5, 3) := by decide +kernel
theorem dX7_holds_68 : decode cX7_holds 68 = .ok (.iconst 0, 1) := by decide +kernel
theorem dX7_holds_69 : decode cX7_holds 69 = .ok (.ireturn, 1) := by decide +kernel
theorem dX7_holds_70 : decode cX7_holds 70 = .ok (.aload_n 0, 1) := by decide +kernel
theorem dX7_holds_71 : decode cX7_holds 71 = .ok (.getfield 55, 3) := by decide +kernel
theorem dX7_holds_74 : decode cX7_holds 74 = .ok (.getfield 339, 3) := by decide +kernel
theorem dX7_holds_77 : decode cX7_holds 77 = .ok (.bipush 6, 2) := by decide +kernel
theorem dX7_holds_79 : decode cX7_holds 79 = .ok (.if_icmp .ne 52, 3) := by decide +kernel
theorem dX7_holds_82 : decode cX7_holds 82 = .ok (.aload_n 0, 1) := by decide +kernel
theorem dX7_holds_83 : decode cX7_holds 83 = .ok (.getfield 48, 3) := by decide +kernel
theorem dX7_holds_86 : decode cX7_holds 86 = .ok (.aload_n 0, 1) := by decide +kernel
theorem dX7_holds_87 : decode cX7_holds 87 = .ok (.getfield 59, 3) := by decide +kernel
theorem dX7_holds_90 : decode cX7_holds 90 = .ok (.aload_n 0, 1) := by decide +kernel
theorem dX7_holds_91 : decode cX7_holds 91 = .ok (.getfield 41, 3) := by decide +kernel
theorem dX7_holds_94 : decode cX7_holds 94 = .ok (.invokevirtual 112, 3) := by decide +kernel
theorem dX7_holds_97 : decode cX7_holds 97 = .ok (.aload_n 0, 1) := by decide +kernel
theorem dX7_holds_98 : decode cX7_holds 98 = .ok (.getfield 55, 3) := by decide +kernel
theorem dX7_holds_101 : decode cX7_holds 101 = .ok (.invokevirtual 380, 3) := by decide +kernel
theorem dX7_holds_104 : decode cX7_holds 104 = .ok (.ifCond .ne 25, 3) := by decide +kernel
theorem dX7_holds_107 : decode cX7_holds 107 = .ok (.aload_n 0, 1) := by decide +kernel
theorem dX7_holds_108 : decode cX7_holds 108 = .ok (.getfield 48, 3) := by decide +kernel
theorem dX7_holds_111 : decode cX7_holds 111 = .ok (.iload_n 1, 1) := by decide +kernel
theorem dX7_holds_112 : decode cX7_holds 112 = .ok (.invokevirtual 160, 3) := by decide +kernel
theorem dX7_holds_115 : decode cX7_holds 115 = .ok (.aload_n 0, 1) := by decide +kernel
theorem dX7_holds_116 : decode cX7_holds 116 = .ok (.getfield 55, 3) := by decide +kernel
theorem dX7_holds_119 : decode cX7_holds 119 = .ok (.getfield 377, 3) := by decide +kernel
theorem dX7_holds_122 : decode cX7_holds 122 = .ok (.if_icmp .ne 7, 3) := by decide +kernel
theorem dX7_holds_125 : decode cX7_holds 125 = .ok (.iconst 1, 1) := by decide +kernel
theorem dX7_holds_126 : decode cX7_holds 126 = .ok (.goto 4, 3) := by decide +kernel
theorem dX7_holds_129 : decode cX7_holds 129 = .ok (.iconst 0, 1) := by decide +kernel
theorem dX7_holds_130 : decode cX7_holds 130 = .ok (.ireturn, 1) := by decide +kernel
theorem dX7_holds_131 : decode cX7_holds 131 = .ok (.aload_n 0, 1) := by decide +kernel
theorem dX7_holds_132 : decode cX7_holds 132 = .ok (.getfield 41, 3) := by decide +kernel
theorem dX7_holds_135 : decode cX7_holds 135 = .ok (.aload_n 0, 1) := by decide +kernel
theorem dX7_holds_136 : decode cX7_holds 136 = .ok (.getfield 59, 3) := by decide +kernel
theorem dX7_holds_139 : decode cX7_holds 139 = .ok (.getfield 133, 3) := by decide +kernel
theorem dX7_holds_142 : decode cX7_holds 142 = .ok (.iload_n 1, 1) := by decide +kernel
theorem dX7_holds_143 : decode cX7_holds 143 = .ok (.aaload, 1) := by decide +kernel
theorem dX7_holds_144 : decode cX7_holds 144 = .ok (.aload_n 0, 1) := by decide +kernel
theorem dX7_holds_145 : decode cX7_holds 145 = .ok (.getfield 59, 3) := by decide +kernel
theorem dX7_holds_148 : decode cX7_holds 148 = .ok (.getfield 137, 3) := by decide +kernel
theorem dX7_holds_151 : decode cX7_holds 151 = .ok (.invokevirtual 141, 3) := by decide +kernel
theorem dX7_holds_154 : decode cX7_holds 154 = .ok (.aload_n 0, 1) := by decide +kernel
theorem dX7_holds_155 : decode cX7_holds 155 = .ok (.getfield 55, 3) := by decide +kernel
theorem dX7_holds_158 : decode cX7_holds 158 = .ok (.getfield 339, 3) := by decide +kernel
theorem dX7_holds_161 : decode cX7_holds 161 = .ok (.bipush 7, 2) := by decide +kernel
theorem dX7_holds_163 : decode cX7_holds 163 = .ok (.if_icmp .ne 29, 3) := by decide +kernel
theorem dX7_holds_166 : decode cX7_holds 166 = .ok (.aload_n 0, 1) := by decide +kernel
theorem dX7_holds_167 : decode cX7_holds 167 = .ok (.getfield 41, 3) := by decide +kernel
theorem dX7_holds_170 : decode cX7_holds 170 = .ok (.invokevirtual 157, 3) := by decide +kernel
theorem dX7_holds_173 : decode cX7_holds 173 = .ok (.bipush 10, 2) := by decide +kernel
theorem dX7_holds_175 : decode cX7_holds 175 = .ok (.aload_n 0, 1) := by decide +kernel
theorem dX7_holds_176 : decode cX7_holds 176 = .ok (.getfield 55, 3) := by decide +kernel
theorem dX7_holds_179 : decode cX7_holds 179 = .ok (.invokevirtual 389, 3) := by decide +kernel
theorem dX7_holds_182 : decode cX7_holds 182 = .ok (.imul, 1) := by decide +kernel
theorem dX7_holds_183 : decode cX7_holds 183 = .ok (.if_icmp .lt 7, 3) := by decide +kernel
theorem dX7_holds_186 : decode cX7_holds 186 = .ok (.iconst 1, 1) := by decide +kernel
theorem dX7_holds_187 : decode cX7_holds 187 = .ok (.goto 4, 3) := by decide +kernel
theorem dX7_holds_190 : decode cX7_holds 190 = .ok (.iconst 0, 1) := by decide +kernel
theorem dX7_holds_191 : decode cX7_holds 191 = .ok (.ireturn, 1) := by decide +kernel
theorem dX7_holds_192 : decode cX7_holds 192 = .ok (.aload_n 0, 1) := by decide +kernel
theorem dX7_holds_193 : decode cX7_holds 193 = .ok (.getfield 55, 3) := by decide +kernel
theorem dX7_holds_196 : decode cX7_holds 196 = .ok (.getfield 383, 3) := by decide +kernel
theorem dX7_holds_199 : decode cX7_holds 199 = .ok (.istore_n 2, 1) := by decide +kernel
theorem dX7_holds_200 : decode cX7_holds 200 = .ok (.aload_n 0, 1) := by decide +kernel
theorem dX7_holds_201 : decode cX7_holds 201 = .ok (.getfield 55, 3) := by decide +kernel
theorem dX7_holds_204 : decode cX7_holds 204 = .ok (.getfield 386, 3) := by decide +kernel
theorem dX7_holds_207 : decode cX7_holds 207 = .ok (.istore_n 3, 1) := by decide +kernel
theorem dX7_holds_208 : decode cX7_holds 208 = .ok (.aload_n 0, 1) := by decide +kernel
theorem dX7_holds_209 : decode cX7_holds 209 = .ok (.getfield 59, 3) := by decide +kernel
theorem dX7_holds_212 : decode cX7_holds 212 = .ok (.iload_n 1, 1) := by decide +kernel
theorem dX7_holds_213 : decode cX7_holds 213 = .ok (.iload_n 2, 1) := by decide +kernel
theorem dX7_holds_214 : decode cX7_holds 214 = .ok (.iload_n 3, 1) := by decide +kernel
theorem dX7_holds_215 : decode cX7_holds 215 = .ok (.invokevirtual 198, 3) := by decide +kernel
theorem dX7_holds_218 : decode cX7_holds 218 = .ok (.ifCond .eq 30, 3) := by decide +kernel
theorem dX7_holds_221 : decode cX7_holds 221 = .ok (.aload_n 0, 1) := by decide +kernel
theorem dX7_holds_222 : decode cX7_holds 222 = .ok (.getfield 41, 3) := by decide +kernel
theorem dX7_holds_225 : decode cX7_holds 225 = .ok (.getfield 218, 3) := by decide +kernel
theorem dX7_holds_228 : decode cX7_holds 228 = .ok (.iconst 3, 1) := by decide +kernel
theorem dX7_holds_229 : decode cX7_holds 229 = .ok (.iload_n 2, 1) := by decide +kernel
theorem dX7_holds_230 : decode cX7_holds 230 = .ok (.imul, 1) := by decide +kernel
theorem dX7_holds_231 : decode cX7_holds 231 = .ok (.iload_n 3, 1) := by decide +kernel
theorem dX7_holds_232 : decode cX7_holds 232 = .ok (.iadd, 1) := by decide +kernel
theorem dX7_holds_233 : decode cX7_holds 233 = .ok (.iaload, 1) := by decide +kernel
theorem dX7_holds_234 : decode cX7_holds 234 = .ok (.aload_n 0, 1) := by decide +kernel
theorem dX7_holds_235 : decode cX7_holds 235 = .ok (.getfield 55, 3) := by decide +kernel
theorem dX7_holds_238 : decode cX7_holds 238 = .ok (.getfield 377, 3) := by decide +kernel
theorem dX7_holds_241 : decode cX7_holds 241 = .ok (.if_icmp .ne 7, 3) := by decide +kernel
theorem dX7_holds_244 : decode cX7_holds 244 = .ok (.iconst 1, 1) := by decide +kernel
theorem dX7_holds_245 : decode cX7_holds 245 = .ok (.goto 4, 3) := by decide +kernel
theorem dX7_holds_248 : decode cX7_holds 248 = .ok (.iconst 0, 1) := by decide +kernel
theorem dX7_holds_249 : decode cX7_holds 249 = .ok (.ireturn, 1) := by decide +kernel
theorem dX7_takeTurn_0 : decode cX7_takeTurn 0 = .ok (.iload_n 1, 1) := by decide +kernel
theorem dX7_takeTurn_1 : decode cX7_takeTurn 1 = .ok (.bipush 8, 2) := by decide +kernel
theorem dX7_takeTurn_3 : decode cX7_takeTurn 3 = .ok (.idiv, 1) := by decide +kernel
theorem dX7_takeTurn_4 : decode cX7_takeTurn 4 = .ok (.iconst 4, 1) := by decide +kernel
theorem dX7_takeTurn_5 : decode cX7_takeTurn 5 = .ok (.irem, 1) := by decide +kernel
theorem dX7_takeTurn_6 : decode cX7_takeTurn 6 = .ok (.istore_n 2, 1) := by decide +kernel
theorem dX7_takeTurn_7 : decode cX7_takeTurn 7 = .ok (.iload_n 1, 1) := by decide +kernel
theorem dX7_takeTurn_8 : decode cX7_takeTurn 8 = .ok (.bipush 32, 2) := by decide +kernel
theorem dX7_takeTurn_10 : decode cX7_takeTurn 10 = .ok (.idiv, 1) := by decide +kernel
theorem dX7_takeTurn_11 : decode cX7_takeTurn 11 = .ok (.bipush 12, 2) := by decide +kernel
theorem dX7_takeTurn_13 : decode cX7_takeTurn 13 = .ok (.irem, 1) := by decide +kernel
theorem dX7_takeTurn_14 : decode cX7_takeTurn 14 = .ok (.istore_n 3, 1) := by decide +kernel
theorem dX7_takeTurn_15 : decode cX7_takeTurn 15 = .ok (.iload_n 1, 1) := by decide +kernel
theorem dX7_takeTurn_16 : decode cX7_takeTurn 16 = .ok (.bipush 8, 2) := by decide +kernel
theorem dX7_takeTurn_18 : decode cX7_takeTurn 18 = .ok (.irem, 1) := by decide +kernel
theorem dX7_takeTurn_19 : decode cX7_takeTurn 19 = .ok (.tableswitch 136 3 7 #[33, 62, 62, 89, 117], 33) := by decide +kernel
theorem dX7_takeTurn_52 : decode cX7_takeTurn 52 = .ok (.aload_n 0, 1) := by decide +kernel
theorem dX7_takeTurn_53 : decode cX7_takeTurn 53 = .ok (.getfield 59, 3) := by decide +kernel
theorem dX7_takeTurn_56 : decode cX7_takeTurn 56 = .ok (.iload_n 2, 1) := by decide +kernel
theorem dX7_takeTurn_57 : decode cX7_takeTurn 57 = .ok (.iload_n 1, 1) := by decide +kernel
theorem dX7_takeTurn_58 : decode cX7_takeTurn 58 = .ok (.bipush 32, 2) := by decide +kernel
theorem dX7_takeTurn_60 : decode cX7_takeTurn 60 = .ok (.idiv, 1) := by decide +kernel
theorem dX7_takeTurn_61 : decode cX7_takeTurn 61 = .ok (.iconst 3, 1) := by decide +kernel
theorem dX7_takeTurn_62 : decode cX7_takeTurn 62 = .ok (.irem, 1) := by decide +kernel
theorem dX7_takeTurn_63 : decode cX7_takeTurn 63 = .ok (.iload_n 1, 1) := by decide +kernel
theorem dX7_takeTurn_64 : decode cX7_takeTurn 64 = .ok (.sipush 128, 3) := by decide +kernel
theorem dX7_takeTurn_67 : decode cX7_takeTurn 67 = .ok (.idiv, 1) := by decide +kernel
theorem dX7_takeTurn_68 : decode cX7_takeTurn 68 = .ok (.ldc_w 392, 3) := by decide +kernel
theorem dX7_takeTurn_71 : decode cX7_takeTurn 71 = .ok (.irem, 1) := by decide +kernel
theorem dX7_takeTurn_72 : decode cX7_takeTurn 72 = .ok (.invokestatic 251, 3) := by decide +kernel
theorem dX7_takeTurn_75 : decode cX7_takeTurn 75 = .ok (.invokevirtual 254, 3) := by decide +kernel
theorem dX7_takeTurn_78 : decode cX7_takeTurn 78 = .ok (.goto 98, 3) := by decide +kernel
theorem dX7_takeTurn_81 : decode cX7_takeTurn 81 = .ok (.aload_n 0, 1) := by decide +kernel
theorem dX7_takeTurn_82 : decode cX7_takeTurn 82 = .ok (.getfield 59, 3) := by decide +kernel
theorem dX7_takeTurn_85 : decode cX7_takeTurn 85 = .ok (.iload_n 2, 1) := by decide +kernel
theorem dX7_takeTurn_86 : decode cX7_takeTurn 86 = .ok (.iload_n 3, 1) := by decide +kernel
theorem dX7_takeTurn_87 : decode cX7_takeTurn 87 = .ok (.iload_n 1, 1) := by decide +kernel
theorem dX7_takeTurn_88 : decode cX7_takeTurn 88 = .ok (.sipush 512, 3) := by decide +kernel
theorem dX7_takeTurn_91 : decode cX7_takeTurn 91 = .ok (.idiv, 1) := by decide +kernel
theorem dX7_takeTurn_92 : decode cX7_takeTurn 92 = .ok (.iconst 3, 1) := by decide +kernel
theorem dX7_takeTurn_93 : decode cX7_takeTurn 93 = .ok (.irem, 1) := by decide +kernel
theorem dX7_takeTurn_94 : decode cX7_takeTurn 94 = .ok (.iload_n 1, 1) := by decide +kernel
theorem dX7_takeTurn_95 : decode cX7_takeTurn 95 = .ok (.sipush 2048, 3) := by decide +kernel
theorem dX7_takeTurn_98 : decode cX7_takeTurn 98 = .ok (.idiv, 1) := by decide +kernel
theorem dX7_takeTurn_99 : decode cX7_takeTurn 99 = .ok (.iconst 4, 1) := by decide +kernel
theorem dX7_takeTurn_100 : decode cX7_takeTurn 100 = .ok (.irem, 1) := by decide +kernel
theorem dX7_takeTurn_101 : decode cX7_takeTurn 101 = .ok (.invokevirtual 261, 3) := by decide +kernel
theorem dX7_takeTurn_104 : decode cX7_takeTurn 104 = .ok (.pop, 1) := by decide +kernel
theorem dX7_takeTurn_105 : decode cX7_takeTurn 105 = .ok (.goto 71, 3) := by decide +kernel
theorem dX7_takeTurn_108 : decode cX7_takeTurn 108 = .ok (.aload_n 0, 1) := by decide +kernel
theorem dX7_takeTurn_109 : decode cX7_takeTurn 109 = .ok (.getfield 59, 3) := by decide +kernel
theorem dX7_takeTurn_112 : decode cX7_takeTurn 112 = .ok (.iload_n 2, 1) := by decide +kernel
theorem dX7_takeTurn_113 : decode cX7_takeTurn 113 = .ok (.iload_n 3, 1) := by decide +kernel
theorem dX7_takeTurn_114 : decode cX7_takeTurn 114 = .ok (.iload_n 1, 1) := by decide +kernel
theorem dX7_takeTurn_115 : decode cX7_takeTurn 115 = .ok (.sipush 512, 3) := by decide +kernel
theorem dX7_takeTurn_118 : decode cX7_takeTurn 118 = .ok (.idiv, 1) := by decide +kernel
theorem dX7_takeTurn_119 : decode cX7_takeTurn 119 = .ok (.iconst 2, 1) := by decide +kernel
theorem dX7_takeTurn_120 : decode cX7_takeTurn 120 = .ok (.irem, 1) := by decide +kernel
theorem dX7_takeTurn_121 : decode cX7_takeTurn 121 = .ok (.ifCond .ne 7, 3) := by decide +kernel
theorem dX7_takeTurn_124 : decode cX7_takeTurn 124 = .ok (.iconst 1, 1) := by decide +kernel
theorem dX7_takeTurn_125 : decode cX7_takeTurn 125 = .ok (.goto 4, 3) := by decide +kernel
theorem dX7_takeTurn_128 : decode cX7_takeTurn 128 = .ok (.iconst 0, 1) := by decide +kernel
theorem dX7_takeTurn_129 : decode cX7_takeTurn 129 = .ok (.invokevirtual 268, 3) := by decide +kernel
theorem dX7_takeTurn_132 : decode cX7_takeTurn 132 = .ok (.pop, 1) := by decide +kernel
theorem dX7_takeTurn_133 : decode cX7_takeTurn 133 = .ok (.goto 43, 3) := by decide +kernel
theorem dX7_takeTurn_136 : decode cX7_takeTurn 136 = .ok (.aload_n 0, 1) := by decide +kernel
theorem dX7_takeTurn_137 : decode cX7_takeTurn 137 = .ok (.getfield 59, 3) := by decide +kernel
theorem dX7_takeTurn_140 : decode cX7_takeTurn 140 = .ok (.iload_n 2, 1) := by decide +kernel
theorem dX7_takeTurn_141 : decode cX7_takeTurn 141 = .ok (.iload_n 1, 1) := by decide +kernel
theorem dX7_takeTurn_142 : decode cX7_takeTurn 142 = .ok (.bipush 32, 2) := by decide +kernel
theorem dX7_takeTurn_144 : decode cX7_takeTurn 144 = .ok (.idiv, 1) := by decide +kernel
theorem dX7_takeTurn_145 : decode cX7_takeTurn 145 = .ok (.bipush 10, 2) := by decide +kernel
theorem dX7_takeTurn_147 : decode cX7_takeTurn 147 = .ok (.irem, 1) := by decide +kernel
theorem dX7_takeTurn_148 : decode cX7_takeTurn 148 = .ok (.invokevirtual 276, 3) := by decide +kernel
theorem dX7_takeTurn_151 : decode cX7_takeTurn 151 = .ok (.pop, 1) := by decide +kernel
theorem dX7_takeTurn_152 : decode cX7_takeTurn 152 = .ok (.goto 24, 3) := by decide +kernel
theorem dX7_takeTurn_155 : decode cX7_takeTurn 155 = .ok (.aload_n 0, 1) := by decide +kernel
theorem dX7_takeTurn_156 : decode cX7_takeTurn 156 = .ok (.getfield 59, 3) := by decide +kernel
theorem dX7_takeTurn_159 : decode cX7_takeTurn 159 = .ok (.iload_n 2, 1) := by decide +kernel
theorem dX7_takeTurn_160 : decode cX7_takeTurn 160 = .ok (.iload_n 3, 1) := by decide +kernel
theorem dX7_takeTurn_161 : decode cX7_takeTurn 161 = .ok (.iload_n 1, 1) := by decide +kernel
theorem dX7_takeTurn_162 : decode cX7_takeTurn 162 = .ok (.sipush 512, 3) := by decide +kernel
theorem dX7_takeTurn_165 : decode cX7_takeTurn 165 = .ok (.idiv, 1) := by decide +kernel
theorem dX7_takeTurn_166 : decode cX7_takeTurn 166 = .ok (.ldc_w 393, 3) := by decide +kernel
theorem dX7_takeTurn_169 : decode cX7_takeTurn 169 = .ok (.irem, 1) := by decide +kernel
theorem dX7_takeTurn_170 : decode cX7_takeTurn 170 = .ok (.invokestatic 239, 3) := by decide +kernel
theorem dX7_takeTurn_173 : decode cX7_takeTurn 173 = .ok (.invokevirtual 242, 3) := by decide +kernel
theorem dX7_takeTurn_176 : decode cX7_takeTurn 176 = .ok (.return_, 1) := by decide +kernel
theorem dX7_kernelOf_0 : decode cX7_kernelOf 0 = .ok (.iload_n 0, 1) := by decide +kernel
theorem dX7_kernelOf_1 : decode cX7_kernelOf 1 = .ok (.bipush 11, 2) := by decide +kernel
theorem dX7_kernelOf_3 : decode cX7_kernelOf 3 = .ok (.irem, 1) := by decide +kernel
theorem dX7_kernelOf_4 : decode cX7_kernelOf 4 = .ok (.iload_n 0, 1) := by decide +kernel
theorem dX7_kernelOf_5 : decode cX7_kernelOf 5 = .ok (.bipush 11, 2) := by decide +kernel
theorem dX7_kernelOf_7 : decode cX7_kernelOf 7 = .ok (.idiv, 1) := by decide +kernel
theorem dX7_kernelOf_8 : decode cX7_kernelOf 8 = .ok (.bipush 11, 2) := by decide +kernel
theorem dX7_kernelOf_10 : decode cX7_kernelOf 10 = .ok (.irem, 1) := by decide +kernel
theorem dX7_kernelOf_11 : decode cX7_kernelOf 11 = .ok (.iload_n 0, 1) := by decide +kernel
theorem dX7_kernelOf_12 : decode cX7_kernelOf 12 = .ok (.bipush 121, 2) := by decide +kernel
theorem dX7_kernelOf_14 : decode cX7_kernelOf 14 = .ok (.idiv, 1) := by decide +kernel
theorem dX7_kernelOf_15 : decode cX7_kernelOf 15 = .ok (.bipush 11, 2) := by decide +kernel
theorem dX7_kernelOf_17 : decode cX7_kernelOf 17 = .ok (.irem, 1) := by decide +kernel
theorem dX7_kernelOf_18 : decode cX7_kernelOf 18 = .ok (.iload_n 0, 1) := by decide +kernel
theorem dX7_kernelOf_19 : decode cX7_kernelOf 19 = .ok (.sipush 1331, 3) := by decide +kernel
theorem dX7_kernelOf_22 : decode cX7_kernelOf 22 = .ok (.idiv, 1) := by decide +kernel
theorem dX7_kernelOf_23 : decode cX7_kernelOf 23 = .ok (.bipush 11, 2) := by decide +kernel
theorem dX7_kernelOf_25 : decode cX7_kernelOf 25 = .ok (.irem, 1) := by decide +kernel
theorem dX7_kernelOf_26 : decode cX7_kernelOf 26 = .ok (.iload_n 0, 1) := by decide +kernel
theorem dX7_kernelOf_27 : decode cX7_kernelOf 27 = .ok (.sipush 14641, 3) := by decide +kernel
theorem dX7_kernelOf_30 : decode cX7_kernelOf 30 = .ok (.idiv, 1) := by decide +kernel
theorem dX7_kernelOf_31 : decode cX7_kernelOf 31 = .ok (.invokestatic 394, 3) := by decide +kernel
theorem dX7_kernelOf_34 : decode cX7_kernelOf 34 = .ok (.bipush 15, 2) := by decide +kernel
theorem dX7_kernelOf_36 : decode cX7_kernelOf 36 = .ok (.isub, 1) := by decide +kernel
theorem dX7_kernelOf_37 : decode cX7_kernelOf 37 = .ok (.ireturn, 1) := by decide +kernel
theorem dX7_componentOf_0 : decode cX7_componentOf 0 = .ok (.iload_n 0, 1) := by decide +kernel
theorem dX7_componentOf_1 : decode cX7_componentOf 1 = .ok (.bipush 41, 2) := by decide +kernel
theorem dX7_componentOf_3 : decode cX7_componentOf 3 = .ok (.irem, 1) := by decide +kernel
theorem dX7_componentOf_4 : decode cX7_componentOf 4 = .ok (.iload_n 0, 1) := by decide +kernel
theorem dX7_componentOf_5 : decode cX7_componentOf 5 = .ok (.bipush 41, 2) := by decide +kernel
theorem dX7_componentOf_7 : decode cX7_componentOf 7 = .ok (.idiv, 1) := by decide +kernel
theorem dX7_componentOf_8 : decode cX7_componentOf 8 = .ok (.bipush 41, 2) := by decide +kernel
theorem dX7_componentOf_10 : decode cX7_componentOf 10 = .ok (.irem, 1) := by decide +kernel
theorem dX7_componentOf_11 : decode cX7_componentOf 11 = .ok (.iload_n 0, 1) := by decide +kernel
theorem dX7_componentOf_12 : decode cX7_componentOf 12 = .ok (.sipush 1681, 3) := by decide +kernel
theorem dX7_componentOf_15 : decode cX7_componentOf 15 = .ok (.idiv, 1) := by decide +kernel
theorem dX7_componentOf_16 : decode cX7_componentOf 16 = .ok (.bipush 41, 2) := by decide +kernel
theorem dX7_componentOf_18 : decode cX7_componentOf 18 = .ok (.irem, 1) := by decide +kernel
theorem dX7_componentOf_19 : decode cX7_componentOf 19 = .ok (.iload_n 0, 1) := by decide +kernel
theorem dX7_componentOf_20 : decode cX7_componentOf 20 = .ok (.ldc_w 398, 3) := by decide +kernel
theorem dX7_componentOf_23 : decode cX7_componentOf 23 = .ok (.idiv, 1) := by decide +kernel
theorem dX7_componentOf_24 : decode cX7_componentOf 24 = .ok (.bipush 41, 2) := by decide +kernel
theorem dX7_componentOf_26 : decode cX7_componentOf 26 = .ok (.irem, 1) := by decide +kernel
theorem dX7_componentOf_27 : decode cX7_componentOf 27 = .ok (.iload_n 0, 1) := by decide +kernel
theorem dX7_componentOf_28 : decode cX7_componentOf 28 = .ok (.ldc_w 399, 3) := by decide +kernel
theorem dX7_componentOf_31 : decode cX7_componentOf 31 = .ok (.idiv, 1) := by decide +kernel
theorem dX7_componentOf_32 : decode cX7_componentOf 32 = .ok (.invokestatic 394, 3) := by decide +kernel
theorem dX7_componentOf_35 : decode cX7_componentOf 35 = .ok (.istore_n 1, 1) := by decide +kernel
theorem dX7_componentOf_36 : decode cX7_componentOf 36 = .ok (.iload_n 1, 1) := by decide +kernel
theorem dX7_componentOf_37 : decode cX7_componentOf 37 = .ok (.bipush 25, 2) := by decide +kernel
theorem dX7_componentOf_39 : decode cX7_componentOf 39 = .ok (.imul, 1) := by decide +kernel
theorem dX7_componentOf_40 : decode cX7_componentOf 40 = .ok (.iconst 1, 1) := by decide +kernel
theorem dX7_componentOf_41 : decode cX7_componentOf 41 = .ok (.iadd, 1) := by decide +kernel
theorem dX7_componentOf_42 : decode cX7_componentOf 42 = .ok (.iconst 3, 1) := by decide +kernel
theorem dX7_componentOf_43 : decode cX7_componentOf 43 = .ok (.idiv, 1) := by decide +kernel
theorem dX7_componentOf_44 : decode cX7_componentOf 44 = .ok (.ireturn, 1) := by decide +kernel
theorem dX7_threeOf_0 : decode cX7_threeOf 0 = .ok (.iload_n 0, 1) := by decide +kernel
theorem dX7_threeOf_1 : decode cX7_threeOf 1 = .ok (.iload_n 1, 1) := by decide +kernel
theorem dX7_threeOf_2 : decode cX7_threeOf 2 = .ok (.invokestatic 400, 3) := by decide +kernel
theorem dX7_threeOf_5 : decode cX7_threeOf 5 = .ok (.iload_n 2, 1) := by decide +kernel
theorem dX7_threeOf_6 : decode cX7_threeOf 6 = .ok (.iload_n 3, 1) := by decide +kernel
theorem dX7_threeOf_7 : decode cX7_threeOf 7 = .ok (.invokestatic 400, 3) := by decide +kernel
theorem dX7_threeOf_10 : decode cX7_threeOf 10 = .ok (.invokestatic 400, 3) := by decide +kernel
theorem dX7_threeOf_13 : decode cX7_threeOf 13 = .ok (.iload 4, 2) := by decide +kernel
theorem dX7_threeOf_15 : decode cX7_threeOf 15 = .ok (.invokestatic 400, 3) := by decide +kernel
theorem dX7_threeOf_18 : decode cX7_threeOf 18 = .ok (.istore 5, 2) := by decide +kernel
theorem dX7_threeOf_20 : decode cX7_threeOf 20 = .ok (.iload_n 0, 1) := by decide +kernel
theorem dX7_threeOf_21 : decode cX7_threeOf 21 = .ok (.iload_n 1, 1) := by decide +kernel
theorem dX7_threeOf_22 : decode cX7_threeOf 22 = .ok (.invokestatic 405, 3) := by decide +kernel
theorem dX7_threeOf_25 : decode cX7_threeOf 25 = .ok (.iload_n 2, 1) := by decide +kernel
theorem dX7_threeOf_26 : decode cX7_threeOf 26 = .ok (.iload_n 3, 1) := by decide +kernel
theorem dX7_threeOf_27 : decode cX7_threeOf 27 = .ok (.invokestatic 405, 3) := by decide +kernel
theorem dX7_threeOf_30 : decode cX7_threeOf 30 = .ok (.invokestatic 405, 3) := by decide +kernel
theorem dX7_threeOf_33 : decode cX7_threeOf 33 = .ok (.iload 4, 2) := by decide +kernel
theorem dX7_threeOf_35 : decode cX7_threeOf 35 = .ok (.invokestatic 405, 3) := by decide +kernel
theorem dX7_threeOf_38 : decode cX7_threeOf 38 = .ok (.istore 6, 2) := by decide +kernel
theorem dX7_threeOf_40 : decode cX7_threeOf 40 = .ok (.iload_n 0, 1) := by decide +kernel
theorem dX7_threeOf_41 : decode cX7_threeOf 41 = .ok (.iload_n 1, 1) := by decide +kernel
theorem dX7_threeOf_42 : decode cX7_threeOf 42 = .ok (.iadd, 1) := by decide +kernel
theorem dX7_threeOf_43 : decode cX7_threeOf 43 = .ok (.iload_n 2, 1) := by decide +kernel
theorem dX7_threeOf_44 : decode cX7_threeOf 44 = .ok (.iadd, 1) := by decide +kernel
theorem dX7_threeOf_45 : decode cX7_threeOf 45 = .ok (.iload_n 3, 1) := by decide +kernel
theorem dX7_threeOf_46 : decode cX7_threeOf 46 = .ok (.iadd, 1) := by decide +kernel
theorem dX7_threeOf_47 : decode cX7_threeOf 47 = .ok (.iload 4, 2) := by decide +kernel
theorem dX7_threeOf_49 : decode cX7_threeOf 49 = .ok (.iadd, 1) := by decide +kernel
theorem dX7_threeOf_50 : decode cX7_threeOf 50 = .ok (.iload 5, 2) := by decide +kernel
theorem dX7_threeOf_52 : decode cX7_threeOf 52 = .ok (.isub, 1) := by decide +kernel
theorem dX7_threeOf_53 : decode cX7_threeOf 53 = .ok (.iload 6, 2) := by decide +kernel
theorem dX7_threeOf_55 : decode cX7_threeOf 55 = .ok (.isub, 1) := by decide +kernel
theorem dX7_threeOf_56 : decode cX7_threeOf 56 = .ok (.ireturn, 1) := by decide +kernel
theorem dX8_init_0 : decode cX8_init 0 = .ok (.aload_n 0, 1) := by decide +kernel
theorem dX8_init_1 : decode cX8_init 1 = .ok (.invokespecial 1, 3) := by decide +kernel
theorem dX8_init_4 : decode cX8_init 4 = .ok (.aload_n 0, 1) := by decide +kernel
theorem dX8_init_5 : decode cX8_init 5 = .ok (.bipush 120, 2) := by decide +kernel
theorem dX8_init_7 : decode cX8_init 7 = .ok (.newarray .int, 2) := by decide +kernel
theorem dX8_init_9 : decode cX8_init 9 = .ok (.putfield 7, 3) := by decide +kernel
theorem dX8_init_12 : decode cX8_init 12 = .ok (.aload_n 0, 1) := by decide +kernel
theorem dX8_init_13 : decode cX8_init 13 = .ok (.sipush 938, 3) := by decide +kernel
theorem dX8_init_16 : decode cX8_init 16 = .ok (.newarray .int, 2) := by decide +kernel
theorem dX8_init_18 : decode cX8_init 18 = .ok (.putfield 13, 3) := by decide +kernel
theorem dX8_init_21 : decode cX8_init 21 = .ok (.aload_n 0, 1) := by decide +kernel
theorem dX8_init_22 : decode cX8_init 22 = .ok (.sipush 938, 3) := by decide +kernel
theorem dX8_init_25 : decode cX8_init 25 = .ok (.newarray .int, 2) := by decide +kernel
theorem dX8_init_27 : decode cX8_init 27 = .ok (.putfield 16, 3) := by decide +kernel
theorem dX8_init_30 : decode cX8_init 30 = .ok (.aload_n 0, 1) := by decide +kernel
theorem dX8_init_31 : decode cX8_init 31 = .ok (.sipush 13132, 3) := by decide +kernel
theorem dX8_init_34 : decode cX8_init 34 = .ok (.newarray .int, 2) := by decide +kernel
theorem dX8_init_36 : decode cX8_init 36 = .ok (.putfield 19, 3) := by decide +kernel
theorem dX8_init_39 : decode cX8_init 39 = .ok (.aload_n 0, 1) := by decide +kernel
theorem dX8_init_40 : decode cX8_init 40 = .ok (.sipush 1876, 3) := by decide +kernel
theorem dX8_init_43 : decode cX8_init 43 = .ok (.newarray .int, 2) := by decide +kernel
theorem dX8_init_45 : decode cX8_init 45 = .ok (.putfield 22, 3) := by decide +kernel
theorem dX8_init_48 : decode cX8_init 48 = .ok (.aload_n 0, 1) := by decide +kernel
theorem dX8_init_49 : decode cX8_init 49 = .ok (.iconst 2, 1) := by decide +kernel
theorem dX8_init_50 : decode cX8_init 50 = .ok (.newarray .boolean, 2) := by decide +kernel
theorem dX8_init_52 : decode cX8_init 52 = .ok (.putfield 25, 3) := by decide +kernel
theorem dX8_init_55 : decode cX8_init 55 = .ok (.aload_n 0, 1) := by decide +kernel
theorem dX8_init_56 : decode cX8_init 56 = .ok (.sipush 233, 3) := by decide +kernel
theorem dX8_init_59 : decode cX8_init 59 = .ok (.newarray .int, 2) := by decide +kernel
theorem dX8_init_61 : decode cX8_init 61 = .ok (.putfield 29, 3) := by decide +kernel
theorem dX8_init_64 : decode cX8_init 64 = .ok (.aload_n 0, 1) := by decide +kernel
theorem dX8_init_65 : decode cX8_init 65 = .ok (.bipush 36, 2) := by decide +kernel
theorem dX8_init_67 : decode cX8_init 67 = .ok (.newarray .int, 2) := by decide +kernel
theorem dX8_init_69 : decode cX8_init 69 = .ok (.putfield 32, 3) := by decide +kernel
theorem dX8_init_72 : decode cX8_init 72 = .ok (.aload_n 0, 1) := by decide +kernel
theorem dX8_init_73 : decode cX8_init 73 = .ok (.bipush 36, 2) := by decide +kernel
theorem dX8_init_75 : decode cX8_init 75 = .ok (.newarray .int, 2) := by decide +kernel
theorem dX8_init_77 : decode cX8_init 77 = .ok (.putfield 35, 3) := by decide +kernel
theorem dX8_init_80 : decode cX8_init 80 = .ok (.aload_n 0, 1) := by decide +kernel
theorem dX8_init_81 : decode cX8_init 81 = .ok (.bipush 12, 2) := by decide +kernel
theorem dX8_init_83 : decode cX8_init 83 = .ok (.newarray .int, 2) := by decide +kernel
theorem dX8_init_85 : decode cX8_init 85 = .ok (.putfield 38, 3) := by decide +kernel
theorem dX8_init_88 : decode cX8_init 88 = .ok (.aload_n 0, 1) := by decide +kernel
theorem dX8_init_89 : decode cX8_init 89 = .ok (.bipush 12, 2) := by decide +kernel
theorem dX8_init_91 : decode cX8_init 91 = .ok (.newarray .int, 2) := by decide +kernel
theorem dX8_init_93 : decode cX8_init 93 = .ok (.putfield 41, 3) := by decide +kernel
theorem dX8_init_96 : decode cX8_init 96 = .ok (.aload_n 0, 1) := by decide +kernel
theorem dX8_init_97 : decode cX8_init 97 = .ok (.bipush 12, 2) := by decide +kernel
theorem dX8_init_99 : decode cX8_init 99 = .ok (.newarray .int, 2) := by decide +kernel
theorem dX8_init_101 : decode cX8_init 101 = .ok (.putfield 44, 3) := by decide +kernel
theorem dX8_init_104 : decode cX8_init 104 = .ok (.aload_n 0, 1) := by decide +kernel
theorem dX8_init_105 : decode cX8_init 105 = .ok (.bipush 12, 2) := by decide +kernel
theorem dX8_init_107 : decode cX8_init 107 = .ok (.newarray .int, 2) := by decide +kernel
theorem dX8_init_109 : decode cX8_init 109 = .ok (.putfield 47, 3) := by decide +kernel
theorem dX8_init_112 : decode cX8_init 112 = .ok (.aload_n 0, 1) := by decide +kernel
theorem dX8_init_113 : decode cX8_init 113 = .ok (.iconst 4, 1) := by decide +kernel
theorem dX8_init_114 : decode cX8_init 114 = .ok (.newarray .int, 2) := by decide +kernel
theorem dX8_init_116 : decode cX8_init 116 = .ok (.putfield 50, 3) := by decide +kernel
theorem dX8_init_119 : decode cX8_init 119 = .ok (.aload_n 0, 1) := by decide +kernel
theorem dX8_init_120 : decode cX8_init 120 = .ok (.iconst 4, 1) := by decide +kernel
theorem dX8_init_121 : decode cX8_init 121 = .ok (.newarray .int, 2) := by decide +kernel
theorem dX8_init_123 : decode cX8_init 123 = .ok (.putfield 53, 3) := by decide +kernel
theorem dX8_init_126 : decode cX8_init 126 = .ok (.aload_n 0, 1) := by decide +kernel
theorem dX8_init_127 : decode cX8_init 127 = .ok (.getfield 13, 3) := by decide +kernel
theorem dX8_init_130 : decode cX8_init 130 = .ok (.iconst 1, 1) := by decide +kernel
theorem dX8_init_131 : decode cX8_init 131 = .ok (.bipush 100, 2) := by decide +kernel
theorem dX8_init_133 : decode cX8_init 133 = .ok (.iastore, 1) := by decide +kernel
theorem dX8_init_134 : decode cX8_init 134 = .ok (.aload_n 0, 1) := by decide +kernel
theorem dX8_init_135 : decode cX8_init 135 = .ok (.getfield 13, 3) := by decide +kernel
theorem dX8_init_138 : decode cX8_init 138 = .ok (.iconst 2, 1) := by decide +kernel
theorem dX8_init_139 : decode cX8_init 139 = .ok (.iconst 3, 1) := by decide +kernel
theorem dX8_init_140 : decode cX8_init 140 = .ok (.iastore, 1) := by decide +kernel
theorem dX8_init_141 : decode cX8_init 141 = .ok (.aload_n 0, 1) := by decide +kernel
theorem dX8_init_142 : decode cX8_init 142 = .ok (.getfield 13, 3) := by decide +kernel
theorem dX8_init_145 : decode cX8_init 145 = .ok (.iconst 3, 1) := by decide +kernel
theorem dX8_init_146 : decode cX8_init 146 = .ok (.bipush 7, 2) := by decide +kernel
theorem dX8_init_148 : decode cX8_init 148 = .ok (.iastore, 1) := by decide +kernel
theorem dX8_init_149 : decode cX8_init 149 = .ok (.aload_n 0, 1) := by decide +kernel
theorem dX8_init_150 : decode cX8_init 150 = .ok (.getfield 13, 3) := by decide +kernel
theorem dX8_init_153 : decode cX8_init 153 = .ok (.iconst 4, 1) := by decide +kernel
theorem dX8_init_154 : decode cX8_init 154 = .ok (.iconst 3, 1) := by decide +kernel
theorem dX8_init_155 : decode cX8_init 155 = .ok (.iastore, 1) := by decide +kernel
theorem dX8_init_156 : decode cX8_init 156 = .ok (.aload_n 0, 1) := by decide +kernel
theorem dX8_init_157 : decode cX8_init 157 = .ok (.getfield 13, 3) := by decide +kernel
theorem dX8_init_160 : decode cX8_init 160 = .ok (.iconst 5, 1) := by decide +kernel
theorem dX8_init_161 : decode cX8_init 161 = .ok (.bipush 10, 2) := by decide +kernel
theorem dX8_init_163 : decode cX8_init 163 = .ok (.iastore, 1) := by decide +kernel
theorem dX8_init_164 : decode cX8_init 164 = .ok (.return_, 1) := by decide +kernel
theorem dX8_thrown_0 : decode cX8_thrown 0 = .ok (.aload_n 0, 1) := by decide +kernel
theorem dX8_thrown_1 : decode cX8_thrown 1 = .ok (.getfield 56, 3) := by decide +kernel
theorem dX8_thrown_4 : decode cX8_thrown 4 = .ok (.ireturn, 1) := by decide +kernel
theorem dX8_refused_0 : decode cX8_refused 0 = .ok (.aload_n 0, 1) := by decide +kernel
theorem dX8_refused_1 : decode cX8_refused 1 = .ok (.iload_n 1, 1) := by decide +kernel
theorem dX8_refused_2 : decode cX8_refused 2 = .ok (.putfield 56, 3) := by decide +kernel
theorem dX8_refused_5 : decode cX8_refused 5 = .ok (.iload_n 1, 1) := by decide +kernel
theorem dX8_refused_6 : decode cX8_refused 6 = .ok (.ifCond .le 7, 3) := by decide +kernel
theorem dX8_refused_9 : decode cX8_refused 9 = .ok (.iconst 1, 1) := by decide +kernel
theorem dX8_refused_10 : decode cX8_refused 10 = .ok (.goto 4, 3) := by decide +kernel
theorem dX8_refused_13 : decode cX8_refused 13 = .ok (.iconst 0, 1) := by decide +kernel
theorem dX8_refused_14 : decode cX8_refused 14 = .ok (.ireturn, 1) := by decide +kernel
theorem dX8_in_0 : decode cX8_in 0 = .ok (.lload_n 0, 1) := by decide +kernel
theorem dX8_in_1 : decode cX8_in 1 = .ok (.lload_n 2, 1) := by decide +kernel
theorem dX8_in_2 : decode cX8_in 2 = .ok (.lcmp, 1) := by decide +kernel
theorem dX8_in_3 : decode cX8_in 3 = .ok (.ifCond .lt 14, 3) := by decide +kernel
theorem dX8_in_6 : decode cX8_in 6 = .ok (.lload_n 0, 1) := by decide +kernel
theorem dX8_in_7 : decode cX8_in 7 = .ok (.lload 4, 2) := by decide +kernel
theorem dX8_in_9 : decode cX8_in 9 = .ok (.lcmp, 1) := by decide +kernel
theorem dX8_in_10 : decode cX8_in 10 = .ok (.ifCond .gt 7, 3) := by decide +kernel
theorem dX8_in_13 : decode cX8_in 13 = .ok (.iconst 1, 1) := by decide +kernel
theorem dX8_in_14 : decode cX8_in 14 = .ok (.goto 4, 3) := by decide +kernel
theorem dX8_in_17 : decode cX8_in 17 = .ok (.iconst 0, 1) := by decide +kernel
theorem dX8_in_18 : decode cX8_in 18 = .ok (.ireturn, 1) := by decide +kernel
theorem dX8_copyState_0 : decode cX8_copyState 0 = .ok (.iconst 0, 1) := by decide +kernel
theorem dX8_copyState_1 : decode cX8_copyState 1 = .ok (.istore 4, 2) := by decide +kernel
theorem dX8_copyState_3 : decode cX8_copyState 3 = .ok (.iload 4, 2) := by decide +kernel
theorem dX8_copyState_5 : decode cX8_copyState 5 = .ok (.sipush 938, 3) := by decide +kernel
theorem dX8_copyState_8 : decode cX8_copyState 8 = .ok (.if_icmp .ge 21, 3) := by decide +kernel
theorem dX8_copyState_11 : decode cX8_copyState 11 = .ok (.aload_n 2, 1) := by decide +kernel
theorem dX8_copyState_12 : decode cX8_copyState 12 = .ok (.iload_n 3, 1) := by decide +kernel
theorem dX8_copyState_13 : decode cX8_copyState 13 = .ok (.iload 4, 2) := by decide +kernel
theorem dX8_copyState_15 : decode cX8_copyState 15 = .ok (.iadd, 1) := by decide +kernel
theorem dX8_copyState_16 : decode cX8_copyState 16 = .ok (.aload_n 0, 1) := by decide +kernel
theorem dX8_copyState_17 : decode cX8_copyState 17 = .ok (.iload_n 1, 1) := by decide +kernel
theorem dX8_copyState_18 : decode cX8_copyState 18 = .ok (.iload 4, 2) := by decide +kernel
theorem dX8_copyState_20 : decode cX8_copyState 20 = .ok (.iadd, 1) := by decide +kernel
theorem dX8_copyState_21 : decode cX8_copyState 21 = .ok (.iaload, 1) := by decide +kernel
theorem dX8_copyState_22 : decode cX8_copyState 22 = .ok (.iastore, 1) := by decide +kernel
theorem dX8_copyState_23 : decode cX8_copyState 23 = .ok (.iinc 4 1, 3) := by decide +kernel
theorem dX8_copyState_26 : decode cX8_copyState 26 = .ok (.goto (-23), 3) := by decide +kernel
theorem dX8_copyState_29 : decode cX8_copyState 29 = .ok (.return_, 1) := by decide +kernel
theorem dX8_skaterAt_0 : decode cX8_skaterAt 0 = .ok (.bipush 6, 2) := by decide +kernel
theorem dX8_skaterAt_2 : decode cX8_skaterAt 2 = .ok (.sipush 233, 3) := by decide +kernel
theorem dX8_skaterAt_5 : decode cX8_skaterAt 5 = .ok (.iload_n 0, 1) := by decide +kernel
theorem dX8_skaterAt_6 : decode cX8_skaterAt 6 = .ok (.imul, 1) := by decide +kernel
theorem dX8_skaterAt_7 : decode cX8_skaterAt 7 = .ok (.iadd, 1) := by decide +kernel
theorem dX8_skaterAt_8 : decode cX8_skaterAt 8 = .ok (.ireturn, 1) := by decide +kernel
theorem dX8_elementAt_0 : decode cX8_elementAt 0 = .ok (.bipush 6, 2) := by decide +kernel
theorem dX8_elementAt_2 : decode cX8_elementAt 2 = .ok (.sipush 233, 3) := by decide +kernel
theorem dX8_elementAt_5 : decode cX8_elementAt 5 = .ok (.iload_n 0, 1) := by decide +kernel
theorem dX8_elementAt_6 : decode cX8_elementAt 6 = .ok (.imul, 1) := by decide +kernel
theorem dX8_elementAt_7 : decode cX8_elementAt 7 = .ok (.iadd, 1) := by decide +kernel
theorem dX8_elementAt_8 : decode cX8_elementAt 8 = .ok (.bipush 17, 2) := by decide +kernel
theorem dX8_elementAt_10 : decode cX8_elementAt 10 = .ok (.iadd, 1) := by decide +kernel
theorem dX8_elementAt_11 : decode cX8_elementAt 11 = .ok (.bipush 18, 2) := by decide +kernel
theorem dX8_elementAt_13 : decode cX8_elementAt 13 = .ok (.iload_n 1, 1) := by decide +kernel
theorem dX8_elementAt_14 : decode cX8_elementAt 14 = .ok (.imul, 1) := by decide +kernel
theorem dX8_elementAt_15 : decode cX8_elementAt 15 = .ok (.iadd, 1) := by decide +kernel
theorem dX8_elementAt_16 : decode cX8_elementAt 16 = .ok (.ireturn, 1) := by decide +kernel
theorem dX8_partAt_0 : decode cX8_partAt 0 = .ok (.iload_n 0, 1) := by decide +kernel
theorem dX8_partAt_1 : decode cX8_partAt 1 = .ok (.iload_n 1, 1) := by decide +kernel
theorem dX8_partAt_2 : decode cX8_partAt 2 = .ok (.invokestatic 60, 3) := by decide +kernel
theorem dX8_partAt_5 : decode cX8_partAt 5 = .ok (.iconst 2, 1) := by decide +kernel
theorem dX8_partAt_6 : decode cX8_partAt 6 = .ok (.iadd, 1) := by decide +kernel
theorem dX8_partAt_7 : decode cX8_partAt 7 = .ok (.iconst 3, 1) := by decide +kernel
theorem dX8_partAt_8 : decode cX8_partAt 8 = .ok (.iload_n 2, 1) := by decide +kernel
theorem dX8_partAt_9 : decode cX8_partAt 9 = .ok (.imul, 1) := by decide +kernel
theorem dX8_partAt_10 : decode cX8_partAt 10 = .ok (.iadd, 1) := by decide +kernel
theorem dX8_partAt_11 : decode cX8_partAt 11 = .ok (.ireturn, 1) := by decide +kernel
theorem dX8_isSkater_0 : decode cX8_isSkater 0 = .ok (.iload_n 1, 1) := by decide +kernel
theorem dX8_isSkater_1 : decode cX8_isSkater 1 = .ok (.i2l, 1) := by decide +kernel
theorem dX8_isSkater_2 : decode cX8_isSkater 2 = .ok (.lconst 0, 1) := by decide +kernel
theorem dX8_isSkater_3 : decode cX8_isSkater 3 = .ok (.aload_n 0, 1) := by decide +kernel
theorem dX8_isSkater_4 : decode cX8_isSkater 4 = .ok (.iconst 0, 1) := by decide +kernel
theorem dX8_isSkater_5 : decode cX8_isSkater 5 = .ok (.iaload, 1) := by decide +kernel
theorem dX8_isSkater_6 : decode cX8_isSkater 6 = .ok (.iconst 1, 1) := by decide +kernel
theorem dX8_isSkater_7 : decode cX8_isSkater 7 = .ok (.isub, 1) := by decide +kernel
theorem dX8_isSkater_8 : decode cX8_isSkater 8 = .ok (.i2l, 1) := by decide +kernel
theorem dX8_isSkater_9 : decode cX8_isSkater 9 = .ok (.invokestatic 64, 3) := by decide +kernel
theorem dX8_isSkater_12 : decode cX8_isSkater 12 = .ok (.ireturn, 1) := by decide +kernel
theorem dX8_isElement_0 : decode cX8_isElement 0 = .ok (.aload_n 0, 1) := by decide +kernel
theorem dX8_isElement_1 : decode cX8_isElement 1 = .ok (.iload_n 1, 1) := by decide +kernel
theorem dX8_isElement_2 : decode cX8_isElement 2 = .ok (.invokestatic 68, 3) := by decide +kernel
theorem dX8_isElement_5 : decode cX8_isElement 5 = .ok (.ifCond .eq 27, 3) := by decide +kernel
theorem dX8_isElement_8 : decode cX8_isElement 8 = .ok (.iload_n 2, 1) := by decide +kernel
theorem dX8_isElement_9 : decode cX8_isElement 9 = .ok (.i2l, 1) := by decide +kernel
theorem dX8_isElement_10 : decode cX8_isElement 10 = .ok (.lconst 0, 1) := by decide +kernel
theorem dX8_isElement_11 : decode cX8_isElement 11 = .ok (.aload_n 0, 1) := by decide +kernel
theorem dX8_isElement_12 : decode cX8_isElement 12 = .ok (.iload_n 1, 1) := by decide +kernel
theorem dX8_isElement_13 : decode cX8_isElement 13 = .ok (.invokestatic 72, 3) := by decide +kernel
theorem dX8_isElement_16 : decode cX8_isElement 16 = .ok (.iconst 0, 1) := by decide +kernel
theorem dX8_isElement_17 : decode cX8_isElement 17 = .ok (.iadd, 1) := by decide +kernel
theorem dX8_isElement_18 : decode cX8_isElement 18 = .ok (.iaload, 1) := by decide +kernel
theorem dX8_isElement_19 : decode cX8_isElement 19 = .ok (.iconst 1, 1) := by decide +kernel
theorem dX8_isElement_20 : decode cX8_isElement 20 = .ok (.isub, 1) := by decide +kernel
theorem dX8_isElement_21 : decode cX8_isElement 21 = .ok (.i2l, 1) := by decide +kernel
theorem dX8_isElement_22 : decode cX8_isElement 22 = .ok (.invokestatic 64, 3) := by decide +kernel
theorem dX8_isElement_25 : decode cX8_isElement 25 = .ok (.ifCond .eq 7, 3) := by decide +kernel
theorem dX8_isElement_28 : decode cX8_isElement 28 = .ok (.iconst 1, 1) := by decide +kernel
theorem dX8_isElement_29 : decode cX8_isElement 29 = .ok (.goto 4, 3) := by decide +kernel
theorem dX8_isElement_32 : decode cX8_isElement 32 = .ok (.iconst 0, 1) := by decide +kernel
theorem dX8_isElement_33 : decode cX8_isElement 33 = .ok (.ireturn, 1) := by decide +kernel
theorem dX8_isPart_0 : decode cX8_isPart 0 = .ok (.aload_n 0, 1) := by decide +kernel
theorem dX8_isPart_1 : decode cX8_isPart 1 = .ok (.iload_n 1, 1) := by decide +kernel
theorem dX8_isPart_2 : decode cX8_isPart 2 = .ok (.iload_n 2, 1) := by decide +kernel
theorem dX8_isPart_3 : decode cX8_isPart 3 = .ok (.invokestatic 76, 3) := by decide +kernel
theorem dX8_isPart_6 : decode cX8_isPart 6 = .ok (.ifCond .eq 28, 3) := by decide +kernel
theorem dX8_isPart_9 : decode cX8_isPart 9 = .ok (.iload_n 3, 1) := by decide +kernel
theorem dX8_isPart_10 : decode cX8_isPart 10 = .ok (.i2l, 1) := by decide +kernel
theorem dX8_isPart_11 : decode cX8_isPart 11 = .ok (.lconst 0, 1) := by decide +kernel
theorem dX8_isPart_12 : decode cX8_isPart 12 = .ok (.aload_n 0, 1) := by decide +kernel
theorem dX8_isPart_13 : decode cX8_isPart 13 = .ok (.iload_n 1, 1) := by decide +kernel
theorem dX8_isPart_14 : decode cX8_isPart 14 = .ok (.iload_n 2, 1) := by decide +kernel
theorem dX8_isPart_15 : decode cX8_isPart 15 = .ok (.invokestatic 60, 3) := by decide +kernel
theorem dX8_isPart_18 : decode cX8_isPart 18 = .ok (.iconst 1, 1) := by decide +kernel
theorem dX8_isPart_19 : decode cX8_isPart 19 = .ok (.iadd, 1) := by decide +kernel
theorem dX8_isPart_20 : decode cX8_isPart 20 = .ok (.iaload, 1) := by decide +kernel
theorem dX8_isPart_21 : decode cX8_isPart 21 = .ok (.iconst 1, 1) := by decide +kernel
theorem dX8_isPart_22 : decode cX8_isPart 22 = .ok (.isub, 1) := by decide +kernel
theorem dX8_isPart_23 : decode cX8_isPart 23 = .ok (.i2l, 1) := by decide +kernel
theorem dX8_isPart_24 : decode cX8_isPart 24 = .ok (.invokestatic 64, 3) := by decide +kernel
theorem dX8_isPart_27 : decode cX8_isPart 27 = .ok (.ifCond .eq 7, 3) := by decide +kernel
theorem dX8_isPart_30 : decode cX8_isPart 30 = .ok (.iconst 1, 1) := by decide +kernel
theorem dX8_isPart_31 : decode cX8_isPart 31 = .ok (.goto 4, 3) := by decide +kernel
theorem dX8_isPart_34 : decode cX8_isPart 34 = .ok (.iconst 0, 1) := by decide +kernel
theorem dX8_isPart_35 : decode cX8_isPart 35 = .ok (.ireturn, 1) := by decide +kernel
theorem dX8_ofKind_0 : decode cX8_ofKind 0 = .ok (.iload_n 0, 1) := by decide +kernel
theorem dX8_ofKind_1 : decode cX8_ofKind 1 = .ok (.ifCond .eq 8, 3) := by decide +kernel
theorem dX8_ofKind_4 : decode cX8_ofKind 4 = .ok (.iload_n 0, 1) := by decide +kernel
theorem dX8_ofKind_5 : decode cX8_ofKind 5 = .ok (.iconst 1, 1) := by decide +kernel
theorem dX8_ofKind_6 : decode cX8_ofKind 6 = .ok (.if_icmp .ne 8, 3) := by decide +kernel
theorem dX8_ofKind_9 : decode cX8_ofKind 9 = .ok (.bipush 40, 2) := by decide +kernel
theorem dX8_ofKind_11 : decode cX8_ofKind 11 = .ok (.goto 30, 3) := by decide +kernel
theorem dX8_ofKind_14 : decode cX8_ofKind 14 = .ok (.iload_n 0, 1) := by decide +kernel
theorem dX8_ofKind_15 : decode cX8_ofKind 15 = .ok (.iconst 2, 1) := by decide +kernel
theorem dX8_ofKind_16 : decode cX8_ofKind 16 = .ok (.if_icmp .eq 8, 3) := by decide +kernel
theorem dX8_ofKind_19 : decode cX8_ofKind 19 = .ok (.iload_n 0, 1) := by decide +kernel
theorem dX8_ofKind_20 : decode cX8_ofKind 20 = .ok (.iconst 3, 1) := by decide +kernel
theorem dX8_ofKind_21 : decode cX8_ofKind 21 = .ok (.if_icmp .ne 8, 3) := by decide +kernel
theorem dX8_ofKind_24 : decode cX8_ofKind 24 = .ok (.bipush 50, 2) := by decide +kernel
theorem dX8_ofKind_26 : decode cX8_ofKind 26 = .ok (.goto 15, 3) := by decide +kernel
theorem dX8_ofKind_29 : decode cX8_ofKind 29 = .ok (.iload_n 0, 1) := by decide +kernel
theorem dX8_ofKind_30 : decode cX8_ofKind 30 = .ok (.iconst 4, 1) := by decide +kernel
theorem dX8_ofKind_31 : decode cX8_ofKind 31 = .ok (.if_icmp .ne 8, 3) := by decide +kernel
theorem dX8_ofKind_34 : decode cX8_ofKind 34 = .ok (.bipush 60, 2) := by decide +kernel
theorem dX8_ofKind_36 : decode cX8_ofKind 36 = .ok (.goto 5, 3) := by decide +kernel
theorem dX8_ofKind_39 : decode cX8_ofKind 39 = .ok (.bipush 110, 2) := by decide +kernel
theorem dX8_ofKind_41 : decode cX8_ofKind 41 = .ok (.istore_n 2, 1) := by decide +kernel
theorem dX8_ofKind_42 : decode cX8_ofKind 42 = .ok (.iload_n 0, 1) := by decide +kernel
theorem dX8_ofKind_43 : decode cX8_ofKind 43 = .ok (.ifCond .eq 8, 3) := by decide +kernel
theorem dX8_ofKind_46 : decode cX8_ofKind 46 = .ok (.iload_n 0, 1) := by decide +kernel
theorem dX8_ofKind_47 : decode cX8_ofKind 47 = .ok (.iconst 1, 1) := by decide +kernel
theorem dX8_ofKind_48 : decode cX8_ofKind 48 = .ok (.if_icmp .ne 9, 3) := by decide +kernel
theorem dX8_ofKind_51 : decode cX8_ofKind 51 = .ok (.sipush 130, 3) := by decide +kernel
theorem dX8_ofKind_54 : decode cX8_ofKind 54 = .ok (.goto 39, 3) := by decide +kernel
theorem dX8_ofKind_57 : decode cX8_ofKind 57 = .ok (.iload_n 0, 1) := by decide +kernel
theorem dX8_ofKind_58 : decode cX8_ofKind 58 = .ok (.iconst 2, 1) := by decide +kernel
theorem dX8_ofKind_59 : decode cX8_ofKind 59 = .ok (.if_icmp .ne 9, 3) := by decide +kernel
theorem dX8_ofKind_62 : decode cX8_ofKind 62 = .ok (.sipush 170, 3) := by decide +kernel
theorem dX8_ofKind_65 : decode cX8_ofKind 65 = .ok (.goto 28, 3) := by decide +kernel
theorem dX8_ofKind_68 : decode cX8_ofKind 68 = .ok (.iload_n 0, 1) := by decide +kernel
theorem dX8_ofKind_69 : decode cX8_ofKind 69 = .ok (.iconst 3, 1) := by decide +kernel
theorem dX8_ofKind_70 : decode cX8_ofKind 70 = .ok (.if_icmp .ne 9, 3) := by decide +kernel
theorem dX8_ofKind_73 : decode cX8_ofKind 73 = .ok (.sipush 180, 3) := by decide +kernel
theorem dX8_ofKind_76 : decode cX8_ofKind 76 = .ok (.goto 17, 3) := by decide +kernel
theorem dX8_ofKind_79 : decode cX8_ofKind 79 = .ok (.iload_n 0, 1) := by decide +kernel
theorem dX8_ofKind_80 : decode cX8_ofKind 80 = .ok (.iconst 4, 1) := by decide +kernel
theorem dX8_ofKind_81 : decode cX8_ofKind 81 = .ok (.if_icmp .ne 9, 3) := by decide +kernel
theorem dX8_ofKind_84 : decode cX8_ofKind 84 = .ok (.sipush 210, 3) := by decide +kernel
theorem dX8_ofKind_87 : decode cX8_ofKind 87 = .ok (.goto 6, 3) := by decide +kernel
theorem dX8_ofKind_90 : decode cX8_ofKind 90 = .ok (.sipush 330, 3) := by decide +kernel
theorem dX8_ofKind_93 : decode cX8_ofKind 93 = .ok (.istore_n 3, 1) := by decide +kernel
theorem dX8_ofKind_94 : decode cX8_ofKind 94 = .ok (.iload_n 0, 1) := by decide +kernel
theorem dX8_ofKind_95 : decode cX8_ofKind 95 = .ok (.ifCond .ne 9, 3) := by decide +kernel
theorem dX8_ofKind_98 : decode cX8_ofKind 98 = .ok (.sipush 420, 3) := by decide +kernel
theorem dX8_ofKind_101 : decode cX8_ofKind 101 = .ok (.goto 50, 3) := by decide +kernel
theorem dX8_ofKind_104 : decode cX8_ofKind 104 = .ok (.iload_n 0, 1) := by decide +kernel
theorem dX8_ofKind_105 : decode cX8_ofKind 105 = .ok (.iconst 1, 1) := by decide +kernel
theorem dX8_ofKind_106 : decode cX8_ofKind 106 = .ok (.if_icmp .ne 9, 3) := by decide +kernel
theorem dX8_ofKind_109 : decode cX8_ofKind 109 = .ok (.sipush 430, 3) := by decide +kernel
theorem dX8_ofKind_112 : decode cX8_ofKind 112 = .ok (.goto 39, 3) := by decide +kernel
theorem dX8_ofKind_115 : decode cX8_ofKind 115 = .ok (.iload_n 0, 1) := by decide +kernel
theorem dX8_ofKind_116 : decode cX8_ofKind 116 = .ok (.iconst 2, 1) := by decide +kernel
theorem dX8_ofKind_117 : decode cX8_ofKind 117 = .ok (.if_icmp .ne 9, 3) := by decide +kernel
theorem dX8_ofKind_120 : decode cX8_ofKind 120 = .ok (.sipush 490, 3) := by decide +kernel
theorem dX8_ofKind_123 : decode cX8_ofKind 123 = .ok (.goto 28, 3) := by decide +kernel
theorem dX8_ofKind_126 : decode cX8_ofKind 126 = .ok (.iload_n 0, 1) := by decide +kernel
theorem dX8_ofKind_127 : decode cX8_ofKind 127 = .ok (.iconst 3, 1) := by decide +kernel
theorem dX8_ofKind_128 : decode cX8_ofKind 128 = .ok (.if_icmp .ne 9, 3) := by decide +kernel
theorem dX8_ofKind_131 : decode cX8_ofKind 131 = .ok (.sipush 530, 3) := by decide +kernel
theorem dX8_ofKind_134 : decode cX8_ofKind 134 = .ok (.goto 17, 3) := by decide +kernel
theorem dX8_ofKind_137 : decode cX8_ofKind 137 = .ok (.iload_n 0, 1) := by decide +kernel
theorem dX8_ofKind_138 : decode cX8_ofKind 138 = .ok (.iconst 4, 1) := by decide +kernel
theorem dX8_ofKind_139 : decode cX8_ofKind 139 = .ok (.if_icmp .ne 9, 3) := by decide +kernel
theorem dX8_ofKind_142 : decode cX8_ofKind 142 = .ok (.sipush 590, 3) := by decide +kernel
theorem dX8_ofKind_145 : decode cX8_ofKind 145 = .ok (.goto 6, 3) := by decide +kernel
theorem dX8_ofKind_148 : decode cX8_ofKind 148 = .ok (.sipush 800, 3) := by decide +kernel
theorem dX8_ofKind_151 : decode cX8_ofKind 151 = .ok (.istore 4, 2) := by decide +kernel
theorem dX8_ofKind_153 : decode cX8_ofKind 153 = .ok (.iload_n 0, 1) := by decide +kernel
theorem dX8_ofKind_154 : decode cX8_ofKind 154 = .ok (.ifCond .ne 9, 3) := by decide +kernel
theorem dX8_ofKind_157 : decode cX8_ofKind 157 = .ok (.sipush 950, 3) := by decide +kernel
theorem dX8_ofKind_160 : decode cX8_ofKind 160 = .ok (.goto 50, 3) := by decide +kernel
theorem dX8_ofKind_163 : decode cX8_ofKind 163 = .ok (.iload_n 0, 1) := by decide +kernel
theorem dX8_ofKind_164 : decode cX8_ofKind 164 = .ok (.iconst 1, 1) := by decide +kernel
theorem dX8_ofKind_165 : decode cX8_ofKind 165 = .ok (.if_icmp .ne 9, 3) := by decide +kernel
theorem dX8_ofKind_168 : decode cX8_ofKind 168 = .ok (.sipush 970, 3) := by decide +kernel
theorem dX8_ofKind_171 : decode cX8_ofKind 171 = .ok (.goto 39, 3) := by decide +kernel
theorem dX8_ofKind_174 : decode cX8_ofKind 174 = .ok (.iload_n 0, 1) := by decide +kernel
theorem dX8_ofKind_175 : decode cX8_ofKind 175 = .ok (.iconst 2, 1) := by decide +kernel
theorem dX8_ofKind_176 : decode cX8_ofKind 176 = .ok (.if_icmp .ne 9, 3) := by decide +kernel
theorem dX8_ofKind_179 : decode cX8_ofKind 179 = .ok (.sipush 1050, 3) := by decide +kernel
theorem dX8_ofKind_182 : decode cX8_ofKind 182 = .ok (.goto 28, 3) := by decide +kernel
theorem dX8_ofKind_185 : decode cX8_ofKind 185 = .ok (.iload_n 0, 1) := by decide +kernel
theorem dX8_ofKind_186 : decode cX8_ofKind 186 = .ok (.iconst 3, 1) := by decide +kernel
theorem dX8_ofKind_187 : decode cX8_ofKind 187 = .ok (.if_icmp .ne 9, 3) := by decide +kernel
theorem dX8_ofKind_190 : decode cX8_ofKind 190 = .ok (.sipush 1100, 3) := by decide +kernel
theorem dX8_ofKind_193 : decode cX8_ofKind 193 = .ok (.goto 17, 3) := by decide +kernel
theorem dX8_ofKind_196 : decode cX8_ofKind 196 = .ok (.iload_n 0, 1) := by decide +kernel
theorem dX8_ofKind_197 : decode cX8_ofKind 197 = .ok (.iconst 4, 1) := by decide +kernel
theorem dX8_ofKind_198 : decode cX8_ofKind 198 = .ok (.if_icmp .ne 9, 3) := by decide +kernel
theorem dX8_ofKind_201 : decode cX8_ofKind 201 = .ok (.sipush 1150, 3) := by decide +kernel
theorem dX8_ofKind_204 : decode cX8_ofKind 204 = .ok (.goto 6, 3) := by decide +kernel
theorem dX8_ofKind_207 : decode cX8_ofKind 207 = .ok (.sipush 1250, 3) := by decide +kernel
theorem dX8_ofKind_210 : decode cX8_ofKind 210 = .ok (.istore 5, 2) := by decide +kernel
theorem dX8_ofKind_212 : decode cX8_ofKind 212 = .ok (.iload_n 1, 1) := by decide +kernel
theorem dX8_ofKind_213 : decode cX8_ofKind 213 = .ok (.iconst 1, 1) := by decide +kernel
theorem dX8_ofKind_214 : decode cX8_ofKind 214 = .ok (.if_icmp .ne 7, 3) := by decide +kernel
theorem dX8_ofKind_217 : decode cX8_ofKind 217 = .ok (.iload_n 2, 1) := by decide +kernel
theorem dX8_ofKind_218 : decode cX8_ofKind 218 = .ok (.goto 33, 3) := by decide +kernel
theorem dX8_ofKind_221 : decode cX8_ofKind 221 = .ok (.iload_n 1, 1) := by decide +kernel
theorem dX8_ofKind_222 : decode cX8_ofKind 222 = .ok (.iconst 2, 1) := by decide +kernel
theorem dX8_ofKind_223 : decode cX8_ofKind 223 = .ok (.if_icmp .ne 7, 3) := by decide +kernel
theorem dX8_ofKind_226 : decode cX8_ofKind 226 = .ok (.iload_n 3, 1) := by decide +kernel
theorem dX8_ofKind_227 : decode cX8_ofKind 227 = .ok (.goto 24, 3) := by decide +kernel
theorem dX8_ofKind_230 : decode cX8_ofKind 230 = .ok (.iload_n 1, 1) := by decide +kernel
theorem dX8_ofKind_231 : decode cX8_ofKind 231 = .ok (.iconst 3, 1) := by decide +kernel
theorem dX8_ofKind_232 : decode cX8_ofKind 232 = .ok (.if_icmp .ne 8, 3) := by decide +kernel
theorem dX8_ofKind_235 : decode cX8_ofKind 235 = .ok (.iload 4, 2) := by decide +kernel
theorem dX8_ofKind_237 : decode cX8_ofKind 237 = .ok (.goto 14, 3) := by decide +kernel
theorem dX8_ofKind_240 : decode cX8_ofKind 240 = .ok (.iload_n 1, 1) := by decide +kernel
theorem dX8_ofKind_241 : decode cX8_ofKind 241 = .ok (.iconst 4, 1) := by decide +kernel
theorem dX8_ofKind_242 : decode cX8_ofKind 242 = .ok (.if_icmp .ne 8, 3) := by decide +kernel
theorem dX8_ofKind_245 : decode cX8_ofKind 245 = .ok (.iload 5, 2) := by decide +kernel
theorem dX8_ofKind_247 : decode cX8_ofKind 247 = .ok (.goto 4, 3) := by decide +kernel
theorem dX8_ofKind_250 : decode cX8_ofKind 250 = .ok (.iconst 0, 1) := by decide +kernel
theorem dX8_ofKind_251 : decode cX8_ofKind 251 = .ok (.ireturn, 1) := by decide +kernel
theorem dX8_percent_0 : decode cX8_percent 0 = .ok (.iload_n 0, 1) := by decide +kernel
theorem dX8_percent_1 : decode cX8_percent 1 = .ok (.iload_n 1, 1) := by decide +kernel
theorem dX8_percent_2 : decode cX8_percent 2 = .ok (.imul, 1) := by decide +kernel
theorem dX8_percent_3 : decode cX8_percent 3 = .ok (.bipush 50, 2) := by decide +kernel
theorem dX8_percent_5 : decode cX8_percent 5 = .ok (.iadd, 1) := by decide +kernel
theorem dX8_percent_6 : decode cX8_percent 6 = .ok (.bipush 100, 2) := by decide +kernel
theorem dX8_percent_8 : decode cX8_percent 8 = .ok (.idiv, 1) := by decide +kernel
theorem dX8_percent_9 : decode cX8_percent 9 = .ok (.ireturn, 1) := by decide +kernel
theorem dX8_ofJump_0 : decode cX8_ofJump 0 = .ok (.iload_n 2, 1) := by decide +kernel
theorem dX8_ofJump_1 : decode cX8_ofJump 1 = .ok (.iconst 2, 1) := by decide +kernel
theorem dX8_ofJump_2 : decode cX8_ofJump 2 = .ok (.if_icmp .ne 11, 3) := by decide +kernel
theorem dX8_ofJump_5 : decode cX8_ofJump 5 = .ok (.iload_n 0, 1) := by decide +kernel
theorem dX8_ofJump_6 : decode cX8_ofJump 6 = .ok (.iload_n 1, 1) := by decide +kernel
theorem dX8_ofJump_7 : decode cX8_ofJump 7 = .ok (.iconst 1, 1) := by decide +kernel
theorem dX8_ofJump_8 : decode cX8_ofJump 8 = .ok (.isub, 1) := by decide +kernel
theorem dX8_ofJump_9 : decode cX8_ofJump 9 = .ok (.invokestatic 80, 3) := by decide +kernel
theorem dX8_ofJump_12 : decode cX8_ofJump 12 = .ok (.ireturn, 1) := by decide +kernel
theorem dX8_ofJump_13 : decode cX8_ofJump 13 = .ok (.iload_n 2, 1) := by decide +kernel
theorem dX8_ofJump_14 : decode cX8_ofJump 14 = .ok (.ifCond .ne 11, 3) := by decide +kernel
theorem dX8_ofJump_17 : decode cX8_ofJump 17 = .ok (.iload_n 0, 1) := by decide +kernel
theorem dX8_ofJump_18 : decode cX8_ofJump 18 = .ok (.iload_n 1, 1) := by decide +kernel
theorem dX8_ofJump_19 : decode cX8_ofJump 19 = .ok (.invokestatic 80, 3) := by decide +kernel
theorem dX8_ofJump_22 : decode cX8_ofJump 22 = .ok (.goto 13, 3) := by decide +kernel
theorem dX8_ofJump_25 : decode cX8_ofJump 25 = .ok (.iload_n 0, 1) := by decide +kernel
theorem dX8_ofJump_26 : decode cX8_ofJump 26 = .ok (.iload_n 1, 1) := by decide +kernel
theorem dX8_ofJump_27 : decode cX8_ofJump 27 = .ok (.invokestatic 80, 3) := by decide +kernel
theorem dX8_ofJump_30 : decode cX8_ofJump 30 = .ok (.bipush 80, 2) := by decide +kernel
theorem dX8_ofJump_32 : decode cX8_ofJump 32 = .ok (.invokestatic 83, 3) := by decide +kernel
theorem dX8_ofJump_35 : decode cX8_ofJump 35 = .ok (.ireturn, 1) := by decide +kernel
theorem dX8_ofLevel_0 : decode cX8_ofLevel 0 = .ok (.iload_n 0, 1) := by decide +kernel
theorem dX8_ofLevel_1 : decode cX8_ofLevel 1 = .ok (.iconst 1, 1) := by decide +kernel
theorem dX8_ofLevel_2 : decode cX8_ofLevel 2 = .ok (.if_icmp .ne 49, 3) := by decide +kernel
theorem dX8_ofLevel_5 : decode cX8_ofLevel 5 = .ok (.iload_n 1, 1) := by decide +kernel
theorem dX8_ofLevel_6 : decode cX8_ofLevel 6 = .ok (.ifCond .ne 8, 3) := by decide +kernel
theorem dX8_ofLevel_9 : decode cX8_ofLevel 9 = .ok (.bipush 120, 2) := by decide +kernel
theorem dX8_ofLevel_11 : decode cX8_ofLevel 11 = .ok (.goto 39, 3) := by decide +kernel
theorem dX8_ofLevel_14 : decode cX8_ofLevel 14 = .ok (.iload_n 1, 1) := by decide +kernel
theorem dX8_ofLevel_15 : decode cX8_ofLevel 15 = .ok (.iconst 1, 1) := by decide +kernel
theorem dX8_ofLevel_16 : decode cX8_ofLevel 16 = .ok (.if_icmp .ne 9, 3) := by decide +kernel
theorem dX8_ofLevel_19 : decode cX8_ofLevel 19 = .ok (.sipush 150, 3) := by decide +kernel
theorem dX8_ofLevel_22 : decode cX8_ofLevel 22 = .ok (.goto 28, 3) := by decide +kernel
theorem dX8_ofLevel_25 : decode cX8_ofLevel 25 = .ok (.iload_n 1, 1) := by decide +kernel
theorem dX8_ofLevel_26 : decode cX8_ofLevel 26 = .ok (.iconst 2, 1) := by decide +kernel
theorem dX8_ofLevel_27 : decode cX8_ofLevel 27 = .ok (.if_icmp .ne 9, 3) := by decide +kernel
theorem dX8_ofLevel_30 : decode cX8_ofLevel 30 = .ok (.sipush 190, 3) := by decide +kernel
theorem dX8_ofLevel_33 : decode cX8_ofLevel 33 = .ok (.goto 17, 3) := by decide +kernel
theorem dX8_ofLevel_36 : decode cX8_ofLevel 36 = .ok (.iload_n 1, 1) := by decide +kernel
theorem dX8_ofLevel_37 : decode cX8_ofLevel 37 = .ok (.iconst 3, 1) := by decide +kernel
theorem dX8_ofLevel_38 : decode cX8_ofLevel 38 = .ok (.if_icmp .ne 9, 3) := by decide +kernel
theorem dX8_ofLevel_41 : decode cX8_ofLevel 41 = .ok (.sipush 240, 3) := by decide +kernel
theorem dX8_ofLevel_44 : decode cX8_ofLevel 44 = .ok (.goto 6, 3) := by decide +kernel
theorem dX8_ofLevel_47 : decode cX8_ofLevel 47 = .ok (.sipush 300, 3) := by decide +kernel
theorem dX8_ofLevel_50 : decode cX8_ofLevel 50 = .ok (.ireturn, 1) := by decide +kernel
theorem dX8_ofLevel_51 : decode cX8_ofLevel 51 = .ok (.iload_n 1, 1) := by decide +kernel
theorem dX8_ofLevel_52 : decode cX8_ofLevel 52 = .ok (.ifCond .ne 9, 3) := by decide +kernel
theorem dX8_ofLevel_55 : decode cX8_ofLevel 55 = .ok (.sipush 150, 3) := by decide +kernel
theorem dX8_ofLevel_58 : decode cX8_ofLevel 58 = .ok (.goto 39, 3) := by decide +kernel
theorem dX8_ofLevel_61 : decode cX8_ofLevel 61 = .ok (.iload_n 1, 1) := by decide +kernel
theorem dX8_ofLevel_62 : decode cX8_ofLevel 62 = .ok (.iconst 1, 1) := by decide +kernel
theorem dX8_ofLevel_63 : decode cX8_ofLevel 63 = .ok (.if_icmp .ne 9, 3) := by decide +kernel
theorem dX8_ofLevel_66 : decode cX8_ofLevel 66 = .ok (.sipush 180, 3) := by decide +kernel
theorem dX8_ofLevel_69 : decode cX8_ofLevel 69 = .ok (.goto 28, 3) := by decide +kernel
theorem dX8_ofLevel_72 : decode cX8_ofLevel 72 = .ok (.iload_n 1, 1) := by decide +kernel
theorem dX8_ofLevel_73 : decode cX8_ofLevel 73 = .ok (.iconst 2, 1) := by decide +kernel
theorem dX8_ofLevel_74 : decode cX8_ofLevel 74 = .ok (.if_icmp .ne 9, 3) := by decide +kernel
theorem dX8_ofLevel_77 : decode cX8_ofLevel 77 = .ok (.sipush 260, 3) := by decide +kernel
theorem dX8_ofLevel_80 : decode cX8_ofLevel 80 = .ok (.goto 17, 3) := by decide +kernel
theorem dX8_ofLevel_83 : decode cX8_ofLevel 83 = .ok (.iload_n 1, 1) := by decide +kernel
theorem dX8_ofLevel_84 : decode cX8_ofLevel 84 = .ok (.iconst 3, 1) := by decide +kernel
theorem dX8_ofLevel_85 : decode cX8_ofLevel 85 = .ok (.if_icmp .ne 9, 3) := by decide +kernel
theorem dX8_ofLevel_88 : decode cX8_ofLevel 88 = .ok (.sipush 330, 3) := by decide +kernel
theorem dX8_ofLevel_91 : decode cX8_ofLevel 91 = .ok (.goto 6, 3) := by decide +kernel
theorem dX8_ofLevel_94 : decode cX8_ofLevel 94 = .ok (.sipush 390, 3) := by decide +kernel
theorem dX8_ofLevel_97 : decode cX8_ofLevel 97 = .ok (.ireturn, 1) := by decide +kernel
theorem dX8_upTo_0 : decode cX8_upTo 0 = .ok (.iconst 0, 1) := by decide +kernel
theorem dX8_upTo_1 : decode cX8_upTo 1 = .ok (.istore 4, 2) := by decide +kernel
theorem dX8_upTo_3 : decode cX8_upTo 3 = .ok (.iconst 0, 1) := by decide +kernel
theorem dX8_upTo_4 : decode cX8_upTo 4 = .ok (.istore 5, 2) := by decide +kernel
theorem dX8_upTo_6 : decode cX8_upTo 6 = .ok (.iload 5, 2) := by decide +kernel
theorem dX8_upTo_8 : decode cX8_upTo 8 = .ok (.iload_n 2, 1) := by decide +kernel
theorem dX8_upTo_9 : decode cX8_upTo 9 = .ok (.if_icmp .gt 33, 3) := by decide +kernel
theorem dX8_upTo_12 : decode cX8_upTo 12 = .ok (.iload 4, 2) := by decide +kernel
theorem dX8_upTo_14 : decode cX8_upTo 14 = .ok (.aload_n 0, 1) := by decide +kernel
theorem dX8_upTo_15 : decode cX8_upTo 15 = .ok (.iload_n 1, 1) := by decide +kernel
theorem dX8_upTo_16 : decode cX8_upTo 16 = .ok (.iload 5, 2) := by decide +kernel
theorem dX8_upTo_18 : decode cX8_upTo 18 = .ok (.invokestatic 60, 3) := by decide +kernel
theorem dX8_upTo_21 : decode cX8_upTo 21 = .ok (.iconst 0, 1) := by decide +kernel
theorem dX8_upTo_22 : decode cX8_upTo 22 = .ok (.iadd, 1) := by decide +kernel
theorem dX8_upTo_23 : decode cX8_upTo 23 = .ok (.iaload, 1) := by decide +kernel
theorem dX8_upTo_24 : decode cX8_upTo 24 = .ok (.iload_n 3, 1) := by decide +kernel
theorem dX8_upTo_25 : decode cX8_upTo 25 = .ok (.if_icmp .ne 7, 3) := by decide +kernel
theorem dX8_upTo_28 : decode cX8_upTo 28 = .ok (.iconst 1, 1) := by decide +kernel
theorem dX8_upTo_29 : decode cX8_upTo 29 = .ok (.goto 4, 3) := by decide +kernel
theorem dX8_upTo_32 : decode cX8_upTo 32 = .ok (.iconst 0, 1) := by decide +kernel
theorem dX8_upTo_33 : decode cX8_upTo 33 = .ok (.iadd, 1) := by decide +kernel
theorem dX8_upTo_34 : decode cX8_upTo 34 = .ok (.istore 4, 2) := by decide +kernel
theorem dX8_upTo_36 : decode cX8_upTo 36 = .ok (.iinc 5 1, 3) := by decide +kernel
theorem dX8_upTo_39 : decode cX8_upTo 39 = .ok (.goto (-33), 3) := by decide +kernel
theorem dX8_upTo_42 : decode cX8_upTo 42 = .ok (.iload 4, 2) := by decide +kernel
theorem dX8_upTo_44 : decode cX8_upTo 44 = .ok (.ireturn, 1) := by decide +kernel
theorem dX8_isTooMany_0 : decode cX8_isTooMany 0 = .ok (.aload_n 0, 1) := by decide +kernel
theorem dX8_isTooMany_1 : decode cX8_isTooMany 1 = .ok (.iload_n 1, 1) := by decide +kernel
theorem dX8_isTooMany_2 : decode cX8_isTooMany 2 = .ok (.iload_n 2, 1) := by decide +kernel
theorem dX8_isTooMany_3 : decode cX8_isTooMany 3 = .ok (.invokestatic 60, 3) := by decide +kernel
theorem dX8_isTooMany_6 : decode cX8_isTooMany 6 = .ok (.iconst 0, 1) := by decide +kernel
theorem dX8_isTooMany_7 : decode cX8_isTooMany 7 = .ok (.iadd, 1) := by decide +kernel
theorem dX8_isTooMany_8 : decode cX8_isTooMany 8 = .ok (.iaload, 1) := by decide +kernel
theorem dX8_isTooMany_9 : decode cX8_isTooMany 9 = .ok (.istore_n 3, 1) := by decide +kernel
theorem dX8_isTooMany_10 : decode cX8_isTooMany 10 = .ok (.iload_n 3, 1) := by decide +kernel
theorem dX8_isTooMany_11 : decode cX8_isTooMany 11 = .ok (.ifCond .ne 9, 3) := by decide +kernel
theorem dX8_isTooMany_14 : decode cX8_isTooMany 14 = .ok (.aload_n 0, 1) := by decide +kernel
theorem dX8_isTooMany_15 : decode cX8_isTooMany 15 = .ok (.iconst 3, 1) := by decide +kernel
theorem dX8_isTooMany_16 : decode cX8_isTooMany 16 = .ok (.iaload, 1) := by decide +kernel
theorem dX8_isTooMany_17 : decode cX8_isTooMany 17 = .ok (.goto 15, 3) := by decide +kernel
theorem dX8_isTooMany_20 : decode cX8_isTooMany 20 = .ok (.iload_n 3, 1) := by decide +kernel
theorem dX8_isTooMany_21 : decode cX8_isTooMany 21 = .ok (.iconst 1, 1) := by decide +kernel
theorem dX8_isTooMany_22 : decode cX8_isTooMany 22 = .ok (.if_icmp .ne 9, 3) := by decide +kernel
theorem dX8_isTooMany_25 : decode cX8_isTooMany 25 = .ok (.aload_n 0, 1) := by decide +kernel
theorem dX8_isTooMany_26 : decode cX8_isTooMany 26 = .ok (.iconst 4, 1) := by decide +kernel
theorem dX8_isTooMany_27 : decode cX8_isTooMany 27 = .ok (.iaload, 1) := by decide +kernel
theorem dX8_isTooMany_28 : decode cX8_isTooMany 28 = .ok (.goto 4, 3) := by decide +kernel
theorem dX8_isTooMany_31 : decode cX8_isTooMany 31 = .ok (.iconst 1, 1) := by decide +kernel
theorem dX8_isTooMany_32 : decode cX8_isTooMany 32 = .ok (.istore 4, 2) := by decide +kernel
theorem dX8_isTooMany_34 : decode cX8_isTooMany 34 = .ok (.aload_n 0, 1) := by decide +kernel
theorem dX8_isTooMany_35 : decode cX8_isTooMany 35 = .ok (.iload_n 1, 1) := by decide +kernel
theorem dX8_isTooMany_36 : decode cX8_isTooMany 36 = .ok (.iload_n 2, 1) := by decide +kernel
theorem dX8_isTooMany_37 : decode cX8_isTooMany 37 = .ok (.iload_n 3, 1) := by decide +kernel
theorem dX8_isTooMany_38 : decode cX8_isTooMany 38 = .ok (.invokestatic 86, 3) := by decide +kernel
theorem dX8_isTooMany_41 : decode cX8_isTooMany 41 = .ok (.iload 4, 2) := by decide +kernel
theorem dX8_isTooMany_43 : decode cX8_isTooMany 43 = .ok (.if_icmp .le 7, 3) := by decide +kernel
theorem dX8_isTooMany_46 : decode cX8_isTooMany 46 = .ok (.iconst 1, 1) := by decide +kernel
theorem dX8_isTooMany_47 : decode cX8_isTooMany 47 = .ok (.goto 4, 3) := by decide +kernel
theorem dX8_isTooMany_50 : decode cX8_isTooMany 50 = .ok (.iconst 0, 1) := by decide +kernel
theorem dX8_isTooMany_51 : decode cX8_isTooMany 51 = .ok (.ireturn, 1) := by decide +kernel
theorem dX8_isChain_0 : decode cX8_isChain 0 = .ok (.aload_n 0, 1) := by decide +kernel
theorem dX8_isChain_1 : decode cX8_isChain 1 = .ok (.iload_n 1, 1) := by decide +kernel
theorem dX8_isChain_2 : decode cX8_isChain 2 = .ok (.iload_n 2, 1) := by decide +kernel
theorem dX8_isChain_3 : decode cX8_isChain 3 = .ok (.invokestatic 60, 3) := by decide +kernel
theorem dX8_isChain_6 : decode cX8_isChain 6 = .ok (.iconst 1, 1) := by decide +kernel
theorem dX8_isChain_7 : decode cX8_isChain 7 = .ok (.iadd, 1) := by decide +kernel
theorem dX8_isChain_8 : decode cX8_isChain 8 = .ok (.iaload, 1) := by decide +kernel
theorem dX8_isChain_9 : decode cX8_isChain 9 = .ok (.iconst 1, 1) := by decide +kernel
theorem dX8_isChain_10 : decode cX8_isChain 10 = .ok (.if_icmp .le 7, 3) := by decide +kernel
theorem dX8_isChain_13 : decode cX8_isChain 13 = .ok (.iconst 1, 1) := by decide +kernel
theorem dX8_isChain_14 : decode cX8_isChain 14 = .ok (.goto 4, 3) := by decide +kernel
theorem dX8_isChain_17 : decode cX8_isChain 17 = .ok (.iconst 0, 1) := by decide +kernel
theorem dX8_isChain_18 : decode cX8_isChain 18 = .ok (.ireturn, 1) := by decide +kernel
theorem dX8_isChainTooMany_0 : decode cX8_isChainTooMany 0 = .ok (.iconst 0, 1) := by decide +kernel
theorem dX8_isChainTooMany_1 : decode cX8_isChainTooMany 1 = .ok (.istore_n 3, 1) := by decide +kernel
theorem dX8_isChainTooMany_2 : decode cX8_isChainTooMany 2 = .ok (.iconst 0, 1) := by decide +kernel
theorem dX8_isChainTooMany_3 : decode cX8_isChainTooMany 3 = .ok (.istore 4, 2) := by decide +kernel
theorem dX8_isChainTooMany_5 : decode cX8_isChainTooMany 5 = .ok (.iload 4, 2) := by decide +kernel
theorem dX8_isChainTooMany_7 : decode cX8_isChainTooMany 7 = .ok (.iload_n 2, 1) := by decide +kernel
theorem dX8_isChainTooMany_8 : decode cX8_isChainTooMany 8 = .ok (.if_icmp .gt 37, 3) := by decide +kernel
theorem dX8_isChainTooMany_11 : decode cX8_isChainTooMany 11 = .ok (.iload_n 3, 1) := by decide +kernel
theorem dX8_isChainTooMany_12 : decode cX8_isChainTooMany 12 = .ok (.aload_n 0, 1) := by decide +kernel
theorem dX8_isChainTooMany_13 : decode cX8_isChainTooMany 13 = .ok (.iload_n 1, 1) := by decide +kernel
theorem dX8_isChainTooMany_14 : decode cX8_isChainTooMany 14 = .ok (.iload 4, 2) := by decide +kernel
theorem dX8_isChainTooMany_16 : decode cX8_isChainTooMany 16 = .ok (.invokestatic 90, 3) := by decide +kernel
theorem dX8_isChainTooMany_19 : decode cX8_isChainTooMany 19 = .ok (.ifCond .eq 17, 3) := by decide +kernel
theorem dX8_isChainTooMany_22 : decode cX8_isChainTooMany 22 = .ok (.aload_n 0, 1) := by decide +kernel
theorem dX8_isChainTooMany_23 : decode cX8_isChainTooMany 23 = .ok (.iload_n 1, 1) := by decide +kernel
theorem dX8_isChainTooMany_24 : decode cX8_isChainTooMany 24 = .ok (.iload 4, 2) := by decide +kernel
theorem dX8_isChainTooMany_26 : decode cX8_isChainTooMany 26 = .ok (.invokestatic 93, 3) := by decide +kernel
theorem dX8_isChainTooMany_29 : decode cX8_isChainTooMany 29 = .ok (.ifCond .ne 7, 3) := by decide +kernel
theorem dX8_isChainTooMany_32 : decode cX8_isChainTooMany 32 = .ok (.iconst 1, 1) := by decide +kernel
theorem dX8_isChainTooMany_33 : decode cX8_isChainTooMany 33 = .ok (.goto 4, 3) := by decide +kernel
theorem dX8_isChainTooMany_36 : decode cX8_isChainTooMany 36 = .ok (.iconst 0, 1) := by decide +kernel
theorem dX8_isChainTooMany_37 : decode cX8_isChainTooMany 37 = .ok (.iadd, 1) := by decide +kernel
theorem dX8_isChainTooMany_38 : decode cX8_isChainTooMany 38 = .ok (.istore_n 3, 1) := by decide +kernel
theorem dX8_isChainTooMany_39 : decode cX8_isChainTooMany 39 = .ok (.iinc 4 1, 3) := by decide +kernel
theorem dX8_isChainTooMany_42 : decode cX8_isChainTooMany 42 = .ok (.goto (-37), 3) := by decide +kernel
theorem dX8_isChainTooMany_45 : decode cX8_isChainTooMany 45 = .ok (.aload_n 0, 1) := by decide +kernel
theorem dX8_isChainTooMany_46 : decode cX8_isChainTooMany 46 = .ok (.iload_n 1, 1) := by decide +kernel
theorem dX8_isChainTooMany_47 : decode cX8_isChainTooMany 47 = .ok (.iload_n 2, 1) := by decide +kernel
theorem dX8_isChainTooMany_48 : decode cX8_isChainTooMany 48 = .ok (.invokestatic 90, 3) := by decide +kernel
theorem dX8_isChainTooMany_51 : decode cX8_isChainTooMany 51 = .ok (.ifCond .eq 14, 3) := by decide +kernel
theorem dX8_isChainTooMany_54 : decode cX8_isChainTooMany 54 = .ok (.iload_n 3, 1) := by decide +kernel
theorem dX8_isChainTooMany_55 : decode cX8_isChainTooMany 55 = .ok (.aload_n 0, 1) := by decide +kernel
theorem dX8_isChainTooMany_56 : decode cX8_isChainTooMany 56 = .ok (.iconst 2, 1) := by decide +kernel
theorem dX8_isChainTooMany_57 : decode cX8_isChainTooMany 57 = .ok (.iaload, 1) := by decide +kernel
theorem dX8_isChainTooMany_58 : decode cX8_isChainTooMany 58 = .ok (.if_icmp .le 7, 3) := by decide +kernel
theorem dX8_isChainTooMany_61 : decode cX8_isChainTooMany 61 = .ok (.iconst 1, 1) := by decide +kernel
theorem dX8_isChainTooMany_62 : decode cX8_isChainTooMany 62 = .ok (.goto 4, 3) := by decide +kernel
theorem dX8_isChainTooMany_65 : decode cX8_isChainTooMany 65 = .ok (.iconst 0, 1) := by decide +kernel
theorem dX8_isChainTooMany_66 : decode cX8_isChainTooMany 66 = .ok (.ireturn, 1) := by decide +kernel
theorem dX8_wasLong_0 : decode cX8_wasLong 0 = .ok (.iconst 0, 1) := by decide +kernel
theorem dX8_wasLong_1 : decode cX8_wasLong 1 = .ok (.istore_n 3, 1) := by decide +kernel
theorem dX8_wasLong_2 : decode cX8_wasLong 2 = .ok (.iload_n 3, 1) := by decide +kernel
theorem dX8_wasLong_3 : decode cX8_wasLong 3 = .ok (.iload_n 2, 1) := by decide +kernel
theorem dX8_wasLong_4 : decode cX8_wasLong 4 = .ok (.if_icmp .ge 42, 3) := by decide +kernel
theorem dX8_wasLong_7 : decode cX8_wasLong 7 = .ok (.aload_n 0, 1) := by decide +kernel
theorem dX8_wasLong_8 : decode cX8_wasLong 8 = .ok (.iload_n 1, 1) := by decide +kernel
theorem dX8_wasLong_9 : decode cX8_wasLong 9 = .ok (.iload_n 3, 1) := by decide +kernel
theorem dX8_wasLong_10 : decode cX8_wasLong 10 = .ok (.invokestatic 60, 3) := by decide +kernel
theorem dX8_wasLong_13 : decode cX8_wasLong 13 = .ok (.iconst 1, 1) := by decide +kernel
theorem dX8_wasLong_14 : decode cX8_wasLong 14 = .ok (.iadd, 1) := by decide +kernel
theorem dX8_wasLong_15 : decode cX8_wasLong 15 = .ok (.iaload, 1) := by decide +kernel
theorem dX8_wasLong_16 : decode cX8_wasLong 16 = .ok (.iconst 3, 1) := by decide +kernel
theorem dX8_wasLong_17 : decode cX8_wasLong 17 = .ok (.if_icmp .ne 23, 3) := by decide +kernel
theorem dX8_wasLong_20 : decode cX8_wasLong 20 = .ok (.aload_n 0, 1) := by decide +kernel
theorem dX8_wasLong_21 : decode cX8_wasLong 21 = .ok (.iload_n 1, 1) := by decide +kernel
theorem dX8_wasLong_22 : decode cX8_wasLong 22 = .ok (.iload_n 3, 1) := by decide +kernel
theorem dX8_wasLong_23 : decode cX8_wasLong 23 = .ok (.invokestatic 93, 3) := by decide +kernel
theorem dX8_wasLong_26 : decode cX8_wasLong 26 = .ok (.ifCond .ne 14, 3) := by decide +kernel
theorem dX8_wasLong_29 : decode cX8_wasLong 29 = .ok (.aload_n 0, 1) := by decide +kernel
theorem dX8_wasLong_30 : decode cX8_wasLong 30 = .ok (.iload_n 1, 1) := by decide +kernel
theorem dX8_wasLong_31 : decode cX8_wasLong 31 = .ok (.iload_n 3, 1) := by decide +kernel
theorem dX8_wasLong_32 : decode cX8_wasLong 32 = .ok (.invokestatic 96, 3) := by decide +kernel
theorem dX8_wasLong_35 : decode cX8_wasLong 35 = .ok (.ifCond .ne 5, 3) := by decide +kernel
theorem dX8_wasLong_38 : decode cX8_wasLong 38 = .ok (.iconst 1, 1) := by decide +kernel
theorem dX8_wasLong_39 : decode cX8_wasLong 39 = .ok (.ireturn, 1) := by decide +kernel
theorem dX8_wasLong_40 : decode cX8_wasLong 40 = .ok (.iinc 3 1, 3) := by decide +kernel
theorem dX8_wasLong_43 : decode cX8_wasLong 43 = .ok (.goto (-41), 3) := by decide +kernel
theorem dX8_wasLong_46 : decode cX8_wasLong 46 = .ok (.iconst 0, 1) := by decide +kernel
theorem dX8_wasLong_47 : decode cX8_wasLong 47 = .ok (.ireturn, 1) := by decide +kernel
theorem dX8_byPlace_0 : decode cX8_byPlace 0 = .ok (.aload_n 0, 1) := by decide +kernel
theorem dX8_byPlace_1 : decode cX8_byPlace 1 = .ok (.iload_n 1, 1) := by decide +kernel
theorem dX8_byPlace_2 : decode cX8_byPlace 2 = .ok (.iload_n 2, 1) := by decide +kernel
theorem dX8_byPlace_3 : decode cX8_byPlace 3 = .ok (.invokestatic 93, 3) := by decide +kernel
theorem dX8_byPlace_6 : decode cX8_byPlace 6 = .ok (.ifCond .eq 5, 3) := by decide +kernel
theorem dX8_byPlace_9 : decode cX8_byPlace 9 = .ok (.iconst 5, 1) := by decide +kernel
theorem dX8_byPlace_10 : decode cX8_byPlace 10 = .ok (.ireturn, 1) := by decide +kernel
theorem dX8_byPlace_11 : decode cX8_byPlace 11 = .ok (.iload_n 3, 1) := by decide +kernel
theorem dX8_byPlace_12 : decode cX8_byPlace 12 = .ok (.ifCond .le 14, 3) := by decide +kernel
theorem dX8_byPlace_15 : decode cX8_byPlace 15 = .ok (.aload_n 0, 1) := by decide +kernel
theorem dX8_byPlace_16 : decode cX8_byPlace 16 = .ok (.iload_n 1, 1) := by decide +kernel
theorem dX8_byPlace_17 : decode cX8_byPlace 17 = .ok (.iload_n 2, 1) := by decide +kernel
theorem dX8_byPlace_18 : decode cX8_byPlace 18 = .ok (.invokestatic 96, 3) := by decide +kernel
theorem dX8_byPlace_21 : decode cX8_byPlace 21 = .ok (.ifCond .eq 5, 3) := by decide +kernel
theorem dX8_byPlace_24 : decode cX8_byPlace 24 = .ok (.iconst 3, 1) := by decide +kernel
theorem dX8_byPlace_25 : decode cX8_byPlace 25 = .ok (.ireturn, 1) := by decide +kernel
theorem dX8_byPlace_26 : decode cX8_byPlace 26 = .ok (.iload_n 3, 1) := by decide +kernel
theorem dX8_byPlace_27 : decode cX8_byPlace 27 = .ok (.iconst 2, 1) := by decide +kernel
theorem dX8_byPlace_28 : decode cX8_byPlace 28 = .ok (.if_icmp .ne 16, 3) := by decide +kernel
theorem dX8_byPlace_31 : decode cX8_byPlace 31 = .ok (.aload_n 0, 1) := by decide +kernel
theorem dX8_byPlace_32 : decode cX8_byPlace 32 = .ok (.iload_n 1, 1) := by decide +kernel
theorem dX8_byPlace_33 : decode cX8_byPlace 33 = .ok (.iload_n 2, 1) := by decide +kernel
theorem dX8_byPlace_34 : decode cX8_byPlace 34 = .ok (.invokestatic 99, 3) := by decide +kernel
theorem dX8_byPlace_37 : decode cX8_byPlace 37 = .ok (.ifCond .eq 7, 3) := by decide +kernel
theorem dX8_byPlace_40 : decode cX8_byPlace 40 = .ok (.iconst 4, 1) := by decide +kernel
theorem dX8_byPlace_41 : decode cX8_byPlace 41 = .ok (.goto 4, 3) := by decide +kernel
theorem dX8_byPlace_44 : decode cX8_byPlace 44 = .ok (.iconst 0, 1) := by decide +kernel
theorem dX8_byPlace_45 : decode cX8_byPlace 45 = .ok (.ireturn, 1) := by decide +kernel
theorem dX8_isAlike_0 : decode cX8_isAlike 0 = .ok (.aload_n 0, 1) := by decide +kernel
theorem dX8_isAlike_1 : decode cX8_isAlike 1 = .ok (.iload_n 1, 1) := by decide +kernel
theorem dX8_isAlike_2 : decode cX8_isAlike 2 = .ok (.iload 4, 2) := by decide +kernel
theorem dX8_isAlike_4 : decode cX8_isAlike 4 = .ok (.invokestatic 60, 3) := by decide +kernel
theorem dX8_isAlike_7 : decode cX8_isAlike 7 = .ok (.iconst 0, 1) := by decide +kernel
theorem dX8_isAlike_8 : decode cX8_isAlike 8 = .ok (.iadd, 1) := by decide +kernel
theorem dX8_isAlike_9 : decode cX8_isAlike 9 = .ok (.iaload, 1) := by decide +kernel
theorem dX8_isAlike_10 : decode cX8_isAlike 10 = .ok (.ifCond .ne 65, 3) := by decide +kernel
theorem dX8_isAlike_13 : decode cX8_isAlike 13 = .ok (.aload_n 0, 1) := by decide +kernel
theorem dX8_isAlike_14 : decode cX8_isAlike 14 = .ok (.iload_n 1, 1) := by decide +kernel
theorem dX8_isAlike_15 : decode cX8_isAlike 15 = .ok (.iload 4, 2) := by decide +kernel
theorem dX8_isAlike_17 : decode cX8_isAlike 17 = .ok (.iload 5, 2) := by decide +kernel
theorem dX8_isAlike_19 : decode cX8_isAlike 19 = .ok (.invokestatic 102, 3) := by decide +kernel
theorem dX8_isAlike_22 : decode cX8_isAlike 22 = .ok (.iaload, 1) := by decide +kernel
theorem dX8_isAlike_23 : decode cX8_isAlike 23 = .ok (.aload_n 0, 1) := by decide +kernel
theorem dX8_isAlike_24 : decode cX8_isAlike 24 = .ok (.iload_n 1, 1) := by decide +kernel
theorem dX8_isAlike_25 : decode cX8_isAlike 25 = .ok (.iload_n 2, 1) := by decide +kernel
theorem dX8_isAlike_26 : decode cX8_isAlike 26 = .ok (.iload_n 3, 1) := by decide +kernel
theorem dX8_isAlike_27 : decode cX8_isAlike 27 = .ok (.invokestatic 102, 3) := by decide +kernel
theorem dX8_isAlike_30 : decode cX8_isAlike 30 = .ok (.iaload, 1) := by decide +kernel
theorem dX8_isAlike_31 : decode cX8_isAlike 31 = .ok (.if_icmp .ne 44, 3) := by decide +kernel
theorem dX8_isAlike_34 : decode cX8_isAlike 34 = .ok (.aload_n 0, 1) := by decide +kernel
theorem dX8_isAlike_35 : decode cX8_isAlike 35 = .ok (.iload_n 1, 1) := by decide +kernel
theorem dX8_isAlike_36 : decode cX8_isAlike 36 = .ok (.iload 4, 2) := by decide +kernel
theorem dX8_isAlike_38 : decode cX8_isAlike 38 = .ok (.iload 5, 2) := by decide +kernel
theorem dX8_isAlike_40 : decode cX8_isAlike 40 = .ok (.invokestatic 102, 3) := by decide +kernel
theorem dX8_isAlike_43 : decode cX8_isAlike 43 = .ok (.iconst 1, 1) := by decide +kernel
theorem dX8_isAlike_44 : decode cX8_isAlike 44 = .ok (.iadd, 1) := by decide +kernel
theorem dX8_isAlike_45 : decode cX8_isAlike 45 = .ok (.iaload, 1) := by decide +kernel
theorem dX8_isAlike_46 : decode cX8_isAlike 46 = .ok (.aload_n 0, 1) := by decide +kernel
theorem dX8_isAlike_47 : decode cX8_isAlike 47 = .ok (.iload_n 1, 1) := by decide +kernel
theorem dX8_isAlike_48 : decode cX8_isAlike 48 = .ok (.iload_n 2, 1) := by decide +kernel
theorem dX8_isAlike_49 : decode cX8_isAlike 49 = .ok (.iload_n 3, 1) := by decide +kernel
theorem dX8_isAlike_50 : decode cX8_isAlike 50 = .ok (.invokestatic 102, 3) := by decide +kernel
theorem dX8_isAlike_53 : decode cX8_isAlike 53 = .ok (.iconst 1, 1) := by decide +kernel
theorem dX8_isAlike_54 : decode cX8_isAlike 54 = .ok (.iadd, 1) := by decide +kernel
theorem dX8_isAlike_55 : decode cX8_isAlike 55 = .ok (.iaload, 1) := by decide +kernel
theorem dX8_isAlike_56 : decode cX8_isAlike 56 = .ok (.if_icmp .ne 19, 3) := by decide +kernel
theorem dX8_isAlike_59 : decode cX8_isAlike 59 = .ok (.aload_n 0, 1) := by decide +kernel
theorem dX8_isAlike_60 : decode cX8_isAlike 60 = .ok (.iload_n 1, 1) := by decide +kernel
theorem dX8_isAlike_61 : decode cX8_isAlike 61 = .ok (.iload 4, 2) := by decide +kernel
theorem dX8_isAlike_63 : decode cX8_isAlike 63 = .ok (.iload 5, 2) := by decide +kernel
theorem dX8_isAlike_65 : decode cX8_isAlike 65 = .ok (.invokestatic 106, 3) := by decide +kernel
theorem dX8_isAlike_68 : decode cX8_isAlike 68 = .ok (.ifCond .ne 7, 3) := by decide +kernel
theorem dX8_isAlike_71 : decode cX8_isAlike 71 = .ok (.iconst 1, 1) := by decide +kernel
theorem dX8_isAlike_72 : decode cX8_isAlike 72 = .ok (.goto 4, 3) := by decide +kernel
theorem dX8_isAlike_75 : decode cX8_isAlike 75 = .ok (.iconst 0, 1) := by decide +kernel
theorem dX8_isAlike_76 : decode cX8_isAlike 76 = .ok (.ireturn, 1) := by decide +kernel
theorem dX8_byRepeat_0 : decode cX8_byRepeat 0 = .ok (.aload_n 0, 1) := by decide +kernel
theorem dX8_byRepeat_1 : decode cX8_byRepeat 1 = .ok (.iload_n 1, 1) := by decide +kernel
theorem dX8_byRepeat_2 : decode cX8_byRepeat 2 = .ok (.iload_n 2, 1) := by decide +kernel
theorem dX8_byRepeat_3 : decode cX8_byRepeat 3 = .ok (.invokestatic 60, 3) := by decide +kernel
theorem dX8_byRepeat_6 : decode cX8_byRepeat 6 = .ok (.iconst 0, 1) := by decide +kernel
theorem dX8_byRepeat_7 : decode cX8_byRepeat 7 = .ok (.iadd, 1) := by decide +kernel
theorem dX8_byRepeat_8 : decode cX8_byRepeat 8 = .ok (.iaload, 1) := by decide +kernel
theorem dX8_byRepeat_9 : decode cX8_byRepeat 9 = .ok (.ifCond .ne 17, 3) := by decide +kernel
theorem dX8_byRepeat_12 : decode cX8_byRepeat 12 = .ok (.aload_n 0, 1) := by decide +kernel
theorem dX8_byRepeat_13 : decode cX8_byRepeat 13 = .ok (.iload_n 1, 1) := by decide +kernel
theorem dX8_byRepeat_14 : decode cX8_byRepeat 14 = .ok (.iload_n 2, 1) := by decide +kernel
theorem dX8_byRepeat_15 : decode cX8_byRepeat 15 = .ok (.iload_n 3, 1) := by decide +kernel
theorem dX8_byRepeat_16 : decode cX8_byRepeat 16 = .ok (.invokestatic 102, 3) := by decide +kernel
theorem dX8_byRepeat_19 : decode cX8_byRepeat 19 = .ok (.iconst 1, 1) := by decide +kernel
theorem dX8_byRepeat_20 : decode cX8_byRepeat 20 = .ok (.iadd, 1) := by decide +kernel
theorem dX8_byRepeat_21 : decode cX8_byRepeat 21 = .ok (.iaload, 1) := by decide +kernel
theorem dX8_byRepeat_22 : decode cX8_byRepeat 22 = .ok (.iconst 3, 1) := by decide +kernel
theorem dX8_byRepeat_23 : decode cX8_byRepeat 23 = .ok (.if_icmp .ge 5, 3) := by decide +kernel
theorem dX8_byRepeat_26 : decode cX8_byRepeat 26 = .ok (.iconst 0, 1) := by decide +kernel
theorem dX8_byRepeat_27 : decode cX8_byRepeat 27 = .ok (.ireturn, 1) := by decide +kernel
theorem dX8_byRepeat_28 : decode cX8_byRepeat 28 = .ok (.iconst 0, 1) := by decide +kernel
theorem dX8_byRepeat_29 : decode cX8_byRepeat 29 = .ok (.istore 4, 2) := by decide +kernel
theorem dX8_byRepeat_31 : decode cX8_byRepeat 31 = .ok (.aload_n 0, 1) := by decide +kernel
theorem dX8_byRepeat_32 : decode cX8_byRepeat 32 = .ok (.iload_n 1, 1) := by decide +kernel
theorem dX8_byRepeat_33 : decode cX8_byRepeat 33 = .ok (.iload_n 2, 1) := by decide +kernel
theorem dX8_byRepeat_34 : decode cX8_byRepeat 34 = .ok (.invokestatic 60, 3) := by decide +kernel
theorem dX8_byRepeat_37 : decode cX8_byRepeat 37 = .ok (.iconst 1, 1) := by decide +kernel
theorem dX8_byRepeat_38 : decode cX8_byRepeat 38 = .ok (.iadd, 1) := by decide +kernel
theorem dX8_byRepeat_39 : decode cX8_byRepeat 39 = .ok (.iaload, 1) := by decide +kernel
theorem dX8_byRepeat_40 : decode cX8_byRepeat 40 = .ok (.iconst 1, 1) := by decide +kernel
theorem dX8_byRepeat_41 : decode cX8_byRepeat 41 = .ok (.if_icmp .ne 7, 3) := by decide +kernel
theorem dX8_byRepeat_44 : decode cX8_byRepeat 44 = .ok (.iconst 1, 1) := by decide +kernel
theorem dX8_byRepeat_45 : decode cX8_byRepeat 45 = .ok (.goto 4, 3) := by decide +kernel
theorem dX8_byRepeat_48 : decode cX8_byRepeat 48 = .ok (.iconst 0, 1) := by decide +kernel
theorem dX8_byRepeat_49 : decode cX8_byRepeat 49 = .ok (.istore 5, 2) := by decide +kernel
theorem dX8_byRepeat_51 : decode cX8_byRepeat 51 = .ok (.iconst 0, 1) := by decide +kernel
theorem dX8_byRepeat_52 : decode cX8_byRepeat 52 = .ok (.istore 6, 2) := by decide +kernel
theorem dX8_byRepeat_54 : decode cX8_byRepeat 54 = .ok (.iload 6, 2) := by decide +kernel
theorem dX8_byRepeat_56 : decode cX8_byRepeat 56 = .ok (.iload_n 2, 1) := by decide +kernel
theorem dX8_byRepeat_57 : decode cX8_byRepeat 57 = .ok (.if_icmp .gt 88, 3) := by decide +kernel
theorem dX8_byRepeat_60 : decode cX8_byRepeat 60 = .ok (.iconst 0, 1) := by decide +kernel
theorem dX8_byRepeat_61 : decode cX8_byRepeat 61 = .ok (.istore 7, 2) := by decide +kernel
theorem dX8_byRepeat_63 : decode cX8_byRepeat 63 = .ok (.iload 7, 2) := by decide +kernel
theorem dX8_byRepeat_65 : decode cX8_byRepeat 65 = .ok (.aload_n 0, 1) := by decide +kernel
theorem dX8_byRepeat_66 : decode cX8_byRepeat 66 = .ok (.iload_n 1, 1) := by decide +kernel
theorem dX8_byRepeat_67 : decode cX8_byRepeat 67 = .ok (.iload 6, 2) := by decide +kernel
theorem dX8_byRepeat_69 : decode cX8_byRepeat 69 = .ok (.invokestatic 60, 3) := by decide +kernel
theorem dX8_byRepeat_72 : decode cX8_byRepeat 72 = .ok (.iconst 1, 1) := by decide +kernel
theorem dX8_byRepeat_73 : decode cX8_byRepeat 73 = .ok (.iadd, 1) := by decide +kernel
theorem dX8_byRepeat_74 : decode cX8_byRepeat 74 = .ok (.iaload, 1) := by decide +kernel
theorem dX8_byRepeat_75 : decode cX8_byRepeat 75 = .ok (.if_icmp .ge 64, 3) := by decide +kernel
theorem dX8_byRepeat_78 : decode cX8_byRepeat 78 = .ok (.iload 6, 2) := by decide +kernel
theorem dX8_byRepeat_80 : decode cX8_byRepeat 80 = .ok (.iload_n 2, 1) := by decide +kernel
theorem dX8_byRepeat_81 : decode cX8_byRepeat 81 = .ok (.if_icmp .lt 9, 3) := by decide +kernel
theorem dX8_byRepeat_84 : decode cX8_byRepeat 84 = .ok (.iload 7, 2) := by decide +kernel
theorem dX8_byRepeat_86 : decode cX8_byRepeat 86 = .ok (.iload_n 3, 1) := by decide +kernel
theorem dX8_byRepeat_87 : decode cX8_byRepeat 87 = .ok (.if_icmp .ge 46, 3) := by decide +kernel
theorem dX8_byRepeat_90 : decode cX8_byRepeat 90 = .ok (.aload_n 0, 1) := by decide +kernel
theorem dX8_byRepeat_91 : decode cX8_byRepeat 91 = .ok (.iload_n 1, 1) := by decide +kernel
theorem dX8_byRepeat_92 : decode cX8_byRepeat 92 = .ok (.iload_n 2, 1) := by decide +kernel
theorem dX8_byRepeat_93 : decode cX8_byRepeat 93 = .ok (.iload_n 3, 1) := by decide +kernel
theorem dX8_byRepeat_94 : decode cX8_byRepeat 94 = .ok (.iload 6, 2) := by decide +kernel
theorem dX8_byRepeat_96 : decode cX8_byRepeat 96 = .ok (.iload 7, 2) := by decide +kernel
theorem dX8_byRepeat_98 : decode cX8_byRepeat 98 = .ok (.invokestatic 109, 3) := by decide +kernel
theorem dX8_byRepeat_101 : decode cX8_byRepeat 101 = .ok (.ifCond .eq 32, 3) := by decide +kernel
theorem dX8_byRepeat_104 : decode cX8_byRepeat 104 = .ok (.iinc 4 1, 3) := by decide +kernel
theorem dX8_byRepeat_107 : decode cX8_byRepeat 107 = .ok (.iload 5, 2) := by decide +kernel
theorem dX8_byRepeat_109 : decode cX8_byRepeat 109 = .ok (.ifCond .eq 21, 3) := by decide +kernel
theorem dX8_byRepeat_112 : decode cX8_byRepeat 112 = .ok (.aload_n 0, 1) := by decide +kernel
theorem dX8_byRepeat_113 : decode cX8_byRepeat 113 = .ok (.iload_n 1, 1) := by decide +kernel
theorem dX8_byRepeat_114 : decode cX8_byRepeat 114 = .ok (.iload 6, 2) := by decide +kernel
theorem dX8_byRepeat_116 : decode cX8_byRepeat 116 = .ok (.invokestatic 60, 3) := by decide +kernel
theorem dX8_byRepeat_119 : decode cX8_byRepeat 119 = .ok (.iconst 1, 1) := by decide +kernel
theorem dX8_byRepeat_120 : decode cX8_byRepeat 120 = .ok (.iadd, 1) := by decide +kernel
theorem dX8_byRepeat_121 : decode cX8_byRepeat 121 = .ok (.iaload, 1) := by decide +kernel
theorem dX8_byRepeat_122 : decode cX8_byRepeat 122 = .ok (.iconst 1, 1) := by decide +kernel
theorem dX8_byRepeat_123 : decode cX8_byRepeat 123 = .ok (.if_icmp .ne 7, 3) := by decide +kernel
theorem dX8_byRepeat_126 : decode cX8_byRepeat 126 = .ok (.iconst 1, 1) := by decide +kernel
theorem dX8_byRepeat_127 : decode cX8_byRepeat 127 = .ok (.goto 4, 3) := by decide +kernel
theorem dX8_byRepeat_130 : decode cX8_byRepeat 130 = .ok (.iconst 0, 1) := by decide +kernel
theorem dX8_byRepeat_131 : decode cX8_byRepeat 131 = .ok (.istore 5, 2) := by decide +kernel
theorem dX8_byRepeat_133 : decode cX8_byRepeat 133 = .ok (.iinc 7 1, 3) := by decide +kernel
theorem dX8_byRepeat_136 : decode cX8_byRepeat 136 = .ok (.goto (-73), 3) := by decide +kernel
theorem dX8_byRepeat_139 : decode cX8_byRepeat 139 = .ok (.iinc 6 1, 3) := by decide +kernel
theorem dX8_byRepeat_142 : decode cX8_byRepeat 142 = .ok (.goto (-88), 3) := by decide +kernel
theorem dX8_byRepeat_145 : decode cX8_byRepeat 145 = .ok (.iload 4, 2) := by decide +kernel
theorem dX8_byRepeat_147 : decode cX8_byRepeat 147 = .ok (.iconst 1, 1) := by decide +kernel
theorem dX8_byRepeat_148 : decode cX8_byRepeat 148 = .ok (.if_icmp .le 7, 3) := by decide +kernel
theorem dX8_byRepeat_151 : decode cX8_byRepeat 151 = .ok (.iconst 2, 1) := by decide +kernel
theorem dX8_byRepeat_152 : decode cX8_byRepeat 152 = .ok (.goto 19, 3) := by decide +kernel
theorem dX8_byRepeat_155 : decode cX8_byRepeat 155 = .ok (.iload 4, 2) := by decide +kernel
theorem dX8_byRepeat_157 : decode cX8_byRepeat 157 = .ok (.iconst 1, 1) := by decide +kernel
theorem dX8_byRepeat_158 : decode cX8_byRepeat 158 = .ok (.if_icmp .ne 12, 3) := by decide +kernel
theorem dX8_byRepeat_161 : decode cX8_byRepeat 161 = .ok (.iload 5, 2) := by decide +kernel
theorem dX8_byRepeat_163 : decode cX8_byRepeat 163 = .ok (.ifCond .eq 7, 3) := by decide +kernel
theorem dX8_byRepeat_166 : decode cX8_byRepeat 166 = .ok (.iconst 1, 1) := by decide +kernel
theorem dX8_byRepeat_167 : decode cX8_byRepeat 167 = .ok (.goto 4, 3) := by decide +kernel
theorem dX8_byRepeat_170 : decode cX8_byRepeat 170 = .ok (.iconst 0, 1) := by decide +kernel
theorem dX8_byRepeat_171 : decode cX8_byRepeat 171 = .ok (.ireturn, 1) := by decide +kernel
theorem dX8_kernel_0 : decode cX8_kernel 0 = .ok (.iconst 0, 1) := by decide +kernel
theorem dX8_kernel_1 : decode cX8_kernel 1 = .ok (.istore_n 2, 1) := by decide +kernel
theorem dX8_kernel_2 : decode cX8_kernel 2 = .ok (.aload_n 0, 1) := by decide +kernel
theorem dX8_kernel_3 : decode cX8_kernel 3 = .ok (.iload_n 1, 1) := by decide +kernel
theorem dX8_kernel_4 : decode cX8_kernel 4 = .ok (.iaload, 1) := by decide +kernel
theorem dX8_kernel_5 : decode cX8_kernel 5 = .ok (.istore_n 3, 1) := by decide +kernel
theorem dX8_kernel_6 : decode cX8_kernel 6 = .ok (.aload_n 0, 1) := by decide +kernel
theorem dX8_kernel_7 : decode cX8_kernel 7 = .ok (.iload_n 1, 1) := by decide +kernel
theorem dX8_kernel_8 : decode cX8_kernel 8 = .ok (.iaload, 1) := by decide +kernel
theorem dX8_kernel_9 : decode cX8_kernel 9 = .ok (.istore 4, 2) := by decide +kernel
theorem dX8_kernel_11 : decode cX8_kernel 11 = .ok (.iconst 0, 1) := by decide +kernel
theorem dX8_kernel_12 : decode cX8_kernel 12 = .ok (.istore 5, 2) := by decide +kernel
theorem dX8_kernel_14 : decode cX8_kernel 14 = .ok (.iload 5, 2) := by decide +kernel
theorem dX8_kernel_16 : decode cX8_kernel 16 = .ok (.iconst 5, 1) := by decide +kernel
theorem dX8_kernel_17 : decode cX8_kernel 17 = .ok (.if_icmp .ge 63, 3) := by decide +kernel
theorem dX8_kernel_20 : decode cX8_kernel 20 = .ok (.iload_n 2, 1) := by decide +kernel
theorem dX8_kernel_21 : decode cX8_kernel 21 = .ok (.aload_n 0, 1) := by decide +kernel
theorem dX8_kernel_22 : decode cX8_kernel 22 = .ok (.iload_n 1, 1) := by decide +kernel
theorem dX8_kernel_23 : decode cX8_kernel 23 = .ok (.iload 5, 2) := by decide +kernel
theorem dX8_kernel_25 : decode cX8_kernel 25 = .ok (.iadd, 1) := by decide +kernel
theorem dX8_kernel_26 : decode cX8_kernel 26 = .ok (.iaload, 1) := by decide +kernel
theorem dX8_kernel_27 : decode cX8_kernel 27 = .ok (.iadd, 1) := by decide +kernel
theorem dX8_kernel_28 : decode cX8_kernel 28 = .ok (.istore_n 2, 1) := by decide +kernel
theorem dX8_kernel_29 : decode cX8_kernel 29 = .ok (.aload_n 0, 1) := by decide +kernel
theorem dX8_kernel_30 : decode cX8_kernel 30 = .ok (.iload_n 1, 1) := by decide +kernel
theorem dX8_kernel_31 : decode cX8_kernel 31 = .ok (.iload 5, 2) := by decide +kernel
theorem dX8_kernel_33 : decode cX8_kernel 33 = .ok (.iadd, 1) := by decide +kernel
theorem dX8_kernel_34 : decode cX8_kernel 34 = .ok (.iaload, 1) := by decide +kernel
theorem dX8_kernel_35 : decode cX8_kernel 35 = .ok (.iload_n 3, 1) := by decide +kernel
theorem dX8_kernel_36 : decode cX8_kernel 36 = .ok (.if_icmp .le 12, 3) := by decide +kernel
theorem dX8_kernel_39 : decode cX8_kernel 39 = .ok (.aload_n 0, 1) := by decide +kernel
theorem dX8_kernel_40 : decode cX8_kernel 40 = .ok (.iload_n 1, 1) := by decide +kernel
