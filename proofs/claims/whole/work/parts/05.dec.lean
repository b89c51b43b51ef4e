theorem dX9_insert_154 : decode cX9_insert 154 = .ok (.goto (-35), 3) := by decide +kernel
theorem dX9_insert_157 : decode cX9_insert 157 = .ok (.aload_n 0, 1) := by decide +kernel
theorem dX9_insert_158 : decode cX9_insert 158 = .ok (.getfield 7, 3) := by decide +kernel
theorem dX9_insert_161 : decode cX9_insert 161 = .ok (.bipush 80, 2) := by decide +kernel
theorem dX9_insert_163 : decode cX9_insert 163 = .ok (.iload_n 1, 1) := by decide +kernel
theorem dX9_insert_164 : decode cX9_insert 164 = .ok (.imul, 1) := by decide +kernel
theorem dX9_insert_165 : decode cX9_insert 165 = .ok (.iload_n 2, 1) := by decide +kernel
theorem dX9_insert_166 : decode cX9_insert 166 = .ok (.iadd, 1) := by decide +kernel
theorem dX9_insert_167 : decode cX9_insert 167 = .ok (.iload_n 3, 1) := by decide +kernel
theorem dX9_insert_168 : decode cX9_insert 168 = .ok (.iastore, 1) := by decide +kernel
theorem dX9_insert_169 : decode cX9_insert 169 = .ok (.aload_n 0, 1) := by decide +kernel
theorem dX9_insert_170 : decode cX9_insert 170 = .ok (.getfield 13, 3) := by decide +kernel
theorem dX9_insert_173 : decode cX9_insert 173 = .ok (.iload_n 1, 1) := by decide +kernel
theorem dX9_insert_174 : decode cX9_insert 174 = .ok (.dup2, 1) := by decide +kernel
theorem dX9_insert_175 : decode cX9_insert 175 = .ok (.iaload, 1) := by decide +kernel
theorem dX9_insert_176 : decode cX9_insert 176 = .ok (.iconst 1, 1) := by decide +kernel
theorem dX9_insert_177 : decode cX9_insert 177 = .ok (.iadd, 1) := by decide +kernel
theorem dX9_insert_178 : decode cX9_insert 178 = .ok (.iastore, 1) := by decide +kernel
theorem dX9_insert_179 : decode cX9_insert 179 = .ok (.aload_n 0, 1) := by decide +kernel
theorem dX9_insert_180 : decode cX9_insert 180 = .ok (.getfield 16, 3) := by decide +kernel
theorem dX9_insert_183 : decode cX9_insert 183 = .ok (.iload_n 1, 1) := by decide +kernel
theorem dX9_insert_184 : decode cX9_insert 184 = .ok (.dup2, 1) := by decide +kernel
theorem dX9_insert_185 : decode cX9_insert 185 = .ok (.iaload, 1) := by decide +kernel
theorem dX9_insert_186 : decode cX9_insert 186 = .ok (.iconst 1, 1) := by decide +kernel
theorem dX9_insert_187 : decode cX9_insert 187 = .ok (.iadd, 1) := by decide +kernel
theorem dX9_insert_188 : decode cX9_insert 188 = .ok (.iastore, 1) := by decide +kernel
theorem dX9_insert_189 : decode cX9_insert 189 = .ok (.aload_n 0, 1) := by decide +kernel
theorem dX9_insert_190 : decode cX9_insert 190 = .ok (.iload_n 1, 1) := by decide +kernel
theorem dX9_insert_191 : decode cX9_insert 191 = .ok (.iload_n 2, 1) := by decide +kernel
theorem dX9_insert_192 : decode cX9_insert 192 = .ok (.iconst 1, 1) := by decide +kernel
theorem dX9_insert_193 : decode cX9_insert 193 = .ok (.invokevirtual 116, 3) := by decide +kernel
theorem dX9_insert_196 : decode cX9_insert 196 = .ok (.aload_n 0, 1) := by decide +kernel
theorem dX9_insert_197 : decode cX9_insert 197 = .ok (.getfield 16, 3) := by decide +kernel
theorem dX9_insert_200 : decode cX9_insert 200 = .ok (.iload_n 1, 1) := by decide +kernel
theorem dX9_insert_201 : decode cX9_insert 201 = .ok (.iaload, 1) := by decide +kernel
theorem dX9_insert_202 : decode cX9_insert 202 = .ok (.ireturn, 1) := by decide +kernel
theorem dX9_delete_0 : decode cX9_delete 0 = .ok (.aload_n 0, 1) := by decide +kernel
theorem dX9_delete_1 : decode cX9_delete 1 = .ok (.iload_n 1, 1) := by decide +kernel
theorem dX9_delete_2 : decode cX9_delete 2 = .ok (.invokevirtual 105, 3) := by decide +kernel
theorem dX9_delete_5 : decode cX9_delete 5 = .ok (.ifCond .eq 21, 3) := by decide +kernel
theorem dX9_delete_8 : decode cX9_delete 8 = .ok (.iload_n 2, 1) := by decide +kernel
theorem dX9_delete_9 : decode cX9_delete 9 = .ok (.i2l, 1) := by decide +kernel
theorem dX9_delete_10 : decode cX9_delete 10 = .ok (.lconst 0, 1) := by decide +kernel
theorem dX9_delete_11 : decode cX9_delete 11 = .ok (.aload_n 0, 1) := by decide +kernel
theorem dX9_delete_12 : decode cX9_delete 12 = .ok (.getfield 13, 3) := by decide +kernel
theorem dX9_delete_15 : decode cX9_delete 15 = .ok (.iload_n 1, 1) := by decide +kernel
theorem dX9_delete_16 : decode cX9_delete 16 = .ok (.iaload, 1) := by decide +kernel
theorem dX9_delete_17 : decode cX9_delete 17 = .ok (.iconst 1, 1) := by decide +kernel
theorem dX9_delete_18 : decode cX9_delete 18 = .ok (.isub, 1) := by decide +kernel
theorem dX9_delete_19 : decode cX9_delete 19 = .ok (.i2l, 1) := by decide +kernel
theorem dX9_delete_20 : decode cX9_delete 20 = .ok (.invokestatic 84, 3) := by decide +kernel
theorem dX9_delete_23 : decode cX9_delete 23 = .ok (.ifCond .ne 22, 3) := by decide +kernel
theorem dX9_delete_26 : decode cX9_delete 26 = .ok (.aload_n 0, 1) := by decide +kernel
theorem dX9_delete_27 : decode cX9_delete 27 = .ok (.aload_n 0, 1) := by decide +kernel
theorem dX9_delete_28 : decode cX9_delete 28 = .ok (.iload_n 1, 1) := by decide +kernel
theorem dX9_delete_29 : decode cX9_delete 29 = .ok (.invokevirtual 105, 3) := by decide +kernel
theorem dX9_delete_32 : decode cX9_delete 32 = .ok (.ifCond .ne 7, 3) := by decide +kernel
theorem dX9_delete_35 : decode cX9_delete 35 = .ok (.iconst 1, 1) := by decide +kernel
theorem dX9_delete_36 : decode cX9_delete 36 = .ok (.goto 4, 3) := by decide +kernel
theorem dX9_delete_39 : decode cX9_delete 39 = .ok (.iconst 2, 1) := by decide +kernel
theorem dX9_delete_40 : decode cX9_delete 40 = .ok (.putfield 78, 3) := by decide +kernel
theorem dX9_delete_43 : decode cX9_delete 43 = .ok (.iconst (-1), 1) := by decide +kernel
theorem dX9_delete_44 : decode cX9_delete 44 = .ok (.ireturn, 1) := by decide +kernel
theorem dX9_delete_45 : decode cX9_delete 45 = .ok (.aload_n 0, 1) := by decide +kernel
theorem dX9_delete_46 : decode cX9_delete 46 = .ok (.aload_n 0, 1) := by decide +kernel
theorem dX9_delete_47 : decode cX9_delete 47 = .ok (.iload_n 1, 1) := by decide +kernel
theorem dX9_delete_48 : decode cX9_delete 48 = .ok (.iload_n 2, 1) := by decide +kernel
theorem dX9_delete_49 : decode cX9_delete 49 = .ok (.iconst 0, 1) := by decide +kernel
theorem dX9_delete_50 : decode cX9_delete 50 = .ok (.invokevirtual 109, 3) := by decide +kernel
theorem dX9_delete_53 : decode cX9_delete 53 = .ok (.bipush 45, 2) := by decide +kernel
theorem dX9_delete_55 : decode cX9_delete 55 = .ok (.if_icmp .eq 7, 3) := by decide +kernel
theorem dX9_delete_58 : decode cX9_delete 58 = .ok (.iconst 3, 1) := by decide +kernel
theorem dX9_delete_59 : decode cX9_delete 59 = .ok (.goto 4, 3) := by decide +kernel
theorem dX9_delete_62 : decode cX9_delete 62 = .ok (.iconst 0, 1) := by decide +kernel
theorem dX9_delete_63 : decode cX9_delete 63 = .ok (.putfield 78, 3) := by decide +kernel
theorem dX9_delete_66 : decode cX9_delete 66 = .ok (.aload_n 0, 1) := by decide +kernel
theorem dX9_delete_67 : decode cX9_delete 67 = .ok (.getfield 78, 3) := by decide +kernel
theorem dX9_delete_70 : decode cX9_delete 70 = .ok (.ifCond .le 5, 3) := by decide +kernel
theorem dX9_delete_73 : decode cX9_delete 73 = .ok (.iconst (-1), 1) := by decide +kernel
theorem dX9_delete_74 : decode cX9_delete 74 = .ok (.ireturn, 1) := by decide +kernel
theorem dX9_delete_75 : decode cX9_delete 75 = .ok (.aload_n 0, 1) := by decide +kernel
theorem dX9_delete_76 : decode cX9_delete 76 = .ok (.getfield 7, 3) := by decide +kernel
theorem dX9_delete_79 : decode cX9_delete 79 = .ok (.bipush 80, 2) := by decide +kernel
theorem dX9_delete_81 : decode cX9_delete 81 = .ok (.iload_n 1, 1) := by decide +kernel
theorem dX9_delete_82 : decode cX9_delete 82 = .ok (.imul, 1) := by decide +kernel
theorem dX9_delete_83 : decode cX9_delete 83 = .ok (.iload_n 2, 1) := by decide +kernel
theorem dX9_delete_84 : decode cX9_delete 84 = .ok (.iadd, 1) := by decide +kernel
theorem dX9_delete_85 : decode cX9_delete 85 = .ok (.iaload, 1) := by decide +kernel
theorem dX9_delete_86 : decode cX9_delete 86 = .ok (.istore_n 3, 1) := by decide +kernel
theorem dX9_delete_87 : decode cX9_delete 87 = .ok (.iload_n 2, 1) := by decide +kernel
theorem dX9_delete_88 : decode cX9_delete 88 = .ok (.istore 4, 2) := by decide +kernel
theorem dX9_delete_90 : decode cX9_delete 90 = .ok (.iload 4, 2) := by decide +kernel
theorem dX9_delete_92 : decode cX9_delete 92 = .ok (.aload_n 0, 1) := by decide +kernel
theorem dX9_delete_93 : decode cX9_delete 93 = .ok (.getfield 13, 3) := by decide +kernel
theorem dX9_delete_96 : decode cX9_delete 96 = .ok (.iload_n 1, 1) := by decide +kernel
theorem dX9_delete_97 : decode cX9_delete 97 = .ok (.iaload, 1) := by decide +kernel
theorem dX9_delete_98 : decode cX9_delete 98 = .ok (.iconst 1, 1) := by decide +kernel
theorem dX9_delete_99 : decode cX9_delete 99 = .ok (.isub, 1) := by decide +kernel
theorem dX9_delete_100 : decode cX9_delete 100 = .ok (.if_icmp .ge 35, 3) := by decide +kernel
theorem dX9_delete_103 : decode cX9_delete 103 = .ok (.aload_n 0, 1) := by decide +kernel
theorem dX9_delete_104 : decode cX9_delete 104 = .ok (.getfield 7, 3) := by decide +kernel
theorem dX9_delete_107 : decode cX9_delete 107 = .ok (.bipush 80, 2) := by decide +kernel
theorem dX9_delete_109 : decode cX9_delete 109 = .ok (.iload_n 1, 1) := by decide +kernel
theorem dX9_delete_110 : decode cX9_delete 110 = .ok (.imul, 1) := by decide +kernel
theorem dX9_delete_111 : decode cX9_delete 111 = .ok (.iload 4, 2) := by decide +kernel
theorem dX9_delete_113 : decode cX9_delete 113 = .ok (.iadd, 1) := by decide +kernel
theorem dX9_delete_114 : decode cX9_delete 114 = .ok (.aload_n 0, 1) := by decide +kernel
theorem dX9_delete_115 : decode cX9_delete 115 = .ok (.getfield 7, 3) := by decide +kernel
theorem dX9_delete_118 : decode cX9_delete 118 = .ok (.bipush 80, 2) := by decide +kernel
theorem dX9_delete_120 : decode cX9_delete 120 = .ok (.iload_n 1, 1) := by decide +kernel
theorem dX9_delete_121 : decode cX9_delete 121 = .ok (.imul, 1) := by decide +kernel
theorem dX9_delete_122 : decode cX9_delete 122 = .ok (.iload 4, 2) := by decide +kernel
theorem dX9_delete_124 : decode cX9_delete 124 = .ok (.iadd, 1) := by decide +kernel
theorem dX9_delete_125 : decode cX9_delete 125 = .ok (.iconst 1, 1) := by decide +kernel
theorem dX9_delete_126 : decode cX9_delete 126 = .ok (.iadd, 1) := by decide +kernel
theorem dX9_delete_127 : decode cX9_delete 127 = .ok (.iaload, 1) := by decide +kernel
theorem dX9_delete_128 : decode cX9_delete 128 = .ok (.iastore, 1) := by decide +kernel
theorem dX9_delete_129 : decode cX9_delete 129 = .ok (.iinc 4 1, 3) := by decide +kernel
theorem dX9_delete_132 : decode cX9_delete 132 = .ok (.goto (-42), 3) := by decide +kernel
theorem dX9_delete_135 : decode cX9_delete 135 = .ok (.aload_n 0, 1) := by decide +kernel
theorem dX9_delete_136 : decode cX9_delete 136 = .ok (.getfield 13, 3) := by decide +kernel
theorem dX9_delete_139 : decode cX9_delete 139 = .ok (.iload_n 1, 1) := by decide +kernel
theorem dX9_delete_140 : decode cX9_delete 140 = .ok (.dup2, 1) := by decide +kernel
theorem dX9_delete_141 : decode cX9_delete 141 = .ok (.iaload, 1) := by decide +kernel
theorem dX9_delete_142 : decode cX9_delete 142 = .ok (.iconst 1, 1) := by decide +kernel
theorem dX9_delete_143 : decode cX9_delete 143 = .ok (.isub, 1) := by decide +kernel
theorem dX9_delete_144 : decode cX9_delete 144 = .ok (.iastore, 1) := by decide +kernel
theorem dX9_delete_145 : decode cX9_delete 145 = .ok (.aload_n 0, 1) := by decide +kernel
theorem dX9_delete_146 : decode cX9_delete 146 = .ok (.getfield 16, 3) := by decide +kernel
theorem dX9_delete_149 : decode cX9_delete 149 = .ok (.iload_n 1, 1) := by decide +kernel
theorem dX9_delete_150 : decode cX9_delete 150 = .ok (.dup2, 1) := by decide +kernel
theorem dX9_delete_151 : decode cX9_delete 151 = .ok (.iaload, 1) := by decide +kernel
theorem dX9_delete_152 : decode cX9_delete 152 = .ok (.iconst 1, 1) := by decide +kernel
theorem dX9_delete_153 : decode cX9_delete 153 = .ok (.iadd, 1) := by decide +kernel
theorem dX9_delete_154 : decode cX9_delete 154 = .ok (.iastore, 1) := by decide +kernel
theorem dX9_delete_155 : decode cX9_delete 155 = .ok (.aload_n 0, 1) := by decide +kernel
theorem dX9_delete_156 : decode cX9_delete 156 = .ok (.iload_n 1, 1) := by decide +kernel
theorem dX9_delete_157 : decode cX9_delete 157 = .ok (.iload_n 2, 1) := by decide +kernel
theorem dX9_delete_158 : decode cX9_delete 158 = .ok (.iconst (-1), 1) := by decide +kernel
theorem dX9_delete_159 : decode cX9_delete 159 = .ok (.invokevirtual 116, 3) := by decide +kernel
theorem dX9_delete_162 : decode cX9_delete 162 = .ok (.iload_n 3, 1) := by decide +kernel
theorem dX9_delete_163 : decode cX9_delete 163 = .ok (.ireturn, 1) := by decide +kernel
theorem dX9_bar_0 : decode cX9_bar 0 = .ok (.aload_n 0, 1) := by decide +kernel
theorem dX9_bar_1 : decode cX9_bar 1 = .ok (.iload_n 1, 1) := by decide +kernel
theorem dX9_bar_2 : decode cX9_bar 2 = .ok (.invokevirtual 105, 3) := by decide +kernel
theorem dX9_bar_5 : decode cX9_bar 5 = .ok (.ifCond .ne 11, 3) := by decide +kernel
theorem dX9_bar_8 : decode cX9_bar 8 = .ok (.aload_n 0, 1) := by decide +kernel
theorem dX9_bar_9 : decode cX9_bar 9 = .ok (.iconst 1, 1) := by decide +kernel
theorem dX9_bar_10 : decode cX9_bar 10 = .ok (.putfield 78, 3) := by decide +kernel
theorem dX9_bar_13 : decode cX9_bar 13 = .ok (.bipush 32, 2) := by decide +kernel
theorem dX9_bar_15 : decode cX9_bar 15 = .ok (.ireturn, 1) := by decide +kernel
theorem dX9_bar_16 : decode cX9_bar 16 = .ok (.aload_n 0, 1) := by decide +kernel
theorem dX9_bar_17 : decode cX9_bar 17 = .ok (.iload_n 2, 1) := by decide +kernel
theorem dX9_bar_18 : decode cX9_bar 18 = .ok (.i2l, 1) := by decide +kernel
theorem dX9_bar_19 : decode cX9_bar 19 = .ok (.lconst 0, 1) := by decide +kernel
theorem dX9_bar_20 : decode cX9_bar 20 = .ok (.aload_n 0, 1) := by decide +kernel
theorem dX9_bar_21 : decode cX9_bar 21 = .ok (.getfield 13, 3) := by decide +kernel
theorem dX9_bar_24 : decode cX9_bar 24 = .ok (.iload_n 1, 1) := by decide +kernel
theorem dX9_bar_25 : decode cX9_bar 25 = .ok (.iaload, 1) := by decide +kernel
theorem dX9_bar_26 : decode cX9_bar 26 = .ok (.iload_n 3, 1) := by decide +kernel
theorem dX9_bar_27 : decode cX9_bar 27 = .ok (.ifCond .eq 7, 3) := by decide +kernel
theorem dX9_bar_30 : decode cX9_bar 30 = .ok (.iconst 0, 1) := by decide +kernel
theorem dX9_bar_31 : decode cX9_bar 31 = .ok (.goto 4, 3) := by decide +kernel
theorem dX9_bar_34 : decode cX9_bar 34 = .ok (.iconst 1, 1) := by decide +kernel
theorem dX9_bar_35 : decode cX9_bar 35 = .ok (.isub, 1) := by decide +kernel
theorem dX9_bar_36 : decode cX9_bar 36 = .ok (.i2l, 1) := by decide +kernel
theorem dX9_bar_37 : decode cX9_bar 37 = .ok (.invokestatic 84, 3) := by decide +kernel
theorem dX9_bar_40 : decode cX9_bar 40 = .ok (.ifCond .eq 7, 3) := by decide +kernel
theorem dX9_bar_43 : decode cX9_bar 43 = .ok (.iconst 0, 1) := by decide +kernel
theorem dX9_bar_44 : decode cX9_bar 44 = .ok (.goto 4, 3) := by decide +kernel
theorem dX9_bar_47 : decode cX9_bar 47 = .ok (.iconst 2, 1) := by decide +kernel
theorem dX9_bar_48 : decode cX9_bar 48 = .ok (.putfield 78, 3) := by decide +kernel
theorem dX9_bar_51 : decode cX9_bar 51 = .ok (.aload_n 0, 1) := by decide +kernel
theorem dX9_bar_52 : decode cX9_bar 52 = .ok (.getfield 78, 3) := by decide +kernel
theorem dX9_bar_55 : decode cX9_bar 55 = .ok (.ifCond .ne 13, 3) := by decide +kernel
theorem dX9_bar_58 : decode cX9_bar 58 = .ok (.aload_n 0, 1) := by decide +kernel
theorem dX9_bar_59 : decode cX9_bar 59 = .ok (.iload_n 1, 1) := by decide +kernel
theorem dX9_bar_60 : decode cX9_bar 60 = .ok (.iload_n 2, 1) := by decide +kernel
theorem dX9_bar_61 : decode cX9_bar 61 = .ok (.iload_n 3, 1) := by decide +kernel
theorem dX9_bar_62 : decode cX9_bar 62 = .ok (.invokevirtual 109, 3) := by decide +kernel
theorem dX9_bar_65 : decode cX9_bar 65 = .ok (.goto 5, 3) := by decide +kernel
theorem dX9_bar_68 : decode cX9_bar 68 = .ok (.bipush 32, 2) := by decide +kernel
theorem dX9_bar_70 : decode cX9_bar 70 = .ok (.ireturn, 1) := by decide +kernel
theorem dX9_close_0 : decode cX9_close 0 = .ok (.aload_n 0, 1) := by decide +kernel
theorem dX9_close_1 : decode cX9_close 1 = .ok (.aload_n 0, 1) := by decide +kernel
theorem dX9_close_2 : decode cX9_close 2 = .ok (.iload_n 1, 1) := by decide +kernel
theorem dX9_close_3 : decode cX9_close 3 = .ok (.invokevirtual 105, 3) := by decide +kernel
theorem dX9_close_6 : decode cX9_close 6 = .ok (.ifCond .ne 7, 3) := by decide +kernel
theorem dX9_close_9 : decode cX9_close 9 = .ok (.iconst 1, 1) := by decide +kernel
theorem dX9_close_10 : decode cX9_close 10 = .ok (.goto 20, 3) := by decide +kernel
theorem dX9_close_13 : decode cX9_close 13 = .ok (.iload_n 2, 1) := by decide +kernel
theorem dX9_close_14 : decode cX9_close 14 = .ok (.i2l, 1) := by decide +kernel
theorem dX9_close_15 : decode cX9_close 15 = .ok (.lconst 0, 1) := by decide +kernel
theorem dX9_close_16 : decode cX9_close 16 = .ok (.ldc2_w 120, 3) := by decide +kernel
theorem dX9_close_19 : decode cX9_close 19 = .ok (.invokestatic 84, 3) := by decide +kernel
theorem dX9_close_22 : decode cX9_close 22 = .ok (.ifCond .ne 7, 3) := by decide +kernel
theorem dX9_close_25 : decode cX9_close 25 = .ok (.iconst 2, 1) := by decide +kernel
theorem dX9_close_26 : decode cX9_close 26 = .ok (.goto 4, 3) := by decide +kernel
theorem dX9_close_29 : decode cX9_close 29 = .ok (.iconst 0, 1) := by decide +kernel
theorem dX9_close_30 : decode cX9_close 30 = .ok (.putfield 78, 3) := by decide +kernel
theorem dX9_close_33 : decode cX9_close 33 = .ok (.aload_n 0, 1) := by decide +kernel
theorem dX9_close_34 : decode cX9_close 34 = .ok (.getfield 78, 3) := by decide +kernel
theorem dX9_close_37 : decode cX9_close 37 = .ok (.ifCond .le 5, 3) := by decide +kernel
theorem dX9_close_40 : decode cX9_close 40 = .ok (.iconst (-1), 1) := by decide +kernel
theorem dX9_close_41 : decode cX9_close 41 = .ok (.ireturn, 1) := by decide +kernel
theorem dX9_close_42 : decode cX9_close 42 = .ok (.aload_n 0, 1) := by decide +kernel
theorem dX9_close_43 : decode cX9_close 43 = .ok (.getfield 19, 3) := by decide +kernel
theorem dX9_close_46 : decode cX9_close 46 = .ok (.iload_n 1, 1) := by decide +kernel
theorem dX9_close_47 : decode cX9_close 47 = .ok (.iaload, 1) := by decide +kernel
theorem dX9_close_48 : decode cX9_close 48 = .ok (.istore_n 3, 1) := by decide +kernel
theorem dX9_close_49 : decode cX9_close 49 = .ok (.aload_n 0, 1) := by decide +kernel
theorem dX9_close_50 : decode cX9_close 50 = .ok (.getfield 19, 3) := by decide +kernel
theorem dX9_close_53 : decode cX9_close 53 = .ok (.iload_n 1, 1) := by decide +kernel
theorem dX9_close_54 : decode cX9_close 54 = .ok (.iload_n 2, 1) := by decide +kernel
theorem dX9_close_55 : decode cX9_close 55 = .ok (.iastore, 1) := by decide +kernel
theorem dX9_close_56 : decode cX9_close 56 = .ok (.iload_n 3, 1) := by decide +kernel
theorem dX9_close_57 : decode cX9_close 57 = .ok (.ireturn, 1) := by decide +kernel
theorem dX9_asks_0 : decode cX9_asks 0 = .ok (.aload_n 0, 1) := by decide +kernel
theorem dX9_asks_1 : decode cX9_asks 1 = .ok (.aload_n 0, 1) := by decide +kernel
theorem dX9_asks_2 : decode cX9_asks 2 = .ok (.iload_n 1, 1) := by decide +kernel
theorem dX9_asks_3 : decode cX9_asks 3 = .ok (.invokevirtual 105, 3) := by decide +kernel
theorem dX9_asks_6 : decode cX9_asks 6 = .ok (.ifCond .eq 7, 3) := by decide +kernel
theorem dX9_asks_9 : decode cX9_asks 9 = .ok (.iconst 0, 1) := by decide +kernel
theorem dX9_asks_10 : decode cX9_asks 10 = .ok (.goto 4, 3) := by decide +kernel
theorem dX9_asks_13 : decode cX9_asks 13 = .ok (.iconst 1, 1) := by decide +kernel
theorem dX9_asks_14 : decode cX9_asks 14 = .ok (.putfield 78, 3) := by decide +kernel
theorem dX9_asks_17 : decode cX9_asks 17 = .ok (.aload_n 0, 1) := by decide +kernel
theorem dX9_asks_18 : decode cX9_asks 18 = .ok (.getfield 78, 3) := by decide +kernel
theorem dX9_asks_21 : decode cX9_asks 21 = .ok (.ifCond .ne 7, 3) := by decide +kernel
theorem dX9_asks_24 : decode cX9_asks 24 = .ok (.iconst 1, 1) := by decide +kernel
theorem dX9_asks_25 : decode cX9_asks 25 = .ok (.goto 4, 3) := by decide +kernel
theorem dX9_asks_28 : decode cX9_asks 28 = .ok (.iconst 0, 1) := by decide +kernel
theorem dX9_asks_29 : decode cX9_asks 29 = .ok (.ireturn, 1) := by decide +kernel
theorem dX9_length_0 : decode cX9_length 0 = .ok (.aload_n 0, 1) := by decide +kernel
theorem dX9_length_1 : decode cX9_length 1 = .ok (.iload_n 1, 1) := by decide +kernel
theorem dX9_length_2 : decode cX9_length 2 = .ok (.invokevirtual 122, 3) := by decide +kernel
theorem dX9_length_5 : decode cX9_length 5 = .ok (.ifCond .eq 12, 3) := by decide +kernel
theorem dX9_length_8 : decode cX9_length 8 = .ok (.aload_n 0, 1) := by decide +kernel
theorem dX9_length_9 : decode cX9_length 9 = .ok (.getfield 13, 3) := by decide +kernel
theorem dX9_length_12 : decode cX9_length 12 = .ok (.iload_n 1, 1) := by decide +kernel
theorem dX9_length_13 : decode cX9_length 13 = .ok (.iaload, 1) := by decide +kernel
theorem dX9_length_14 : decode cX9_length 14 = .ok (.goto 4, 3) := by decide +kernel
theorem dX9_length_17 : decode cX9_length 17 = .ok (.iconst (-1), 1) := by decide +kernel
theorem dX9_length_18 : decode cX9_length 18 = .ok (.ireturn, 1) := by decide +kernel
theorem dX9_codeAt_0 : decode cX9_codeAt 0 = .ok (.aload_n 0, 1) := by decide +kernel
theorem dX9_codeAt_1 : decode cX9_codeAt 1 = .ok (.aload_n 0, 1) := by decide +kernel
theorem dX9_codeAt_2 : decode cX9_codeAt 2 = .ok (.iload_n 1, 1) := by decide +kernel
theorem dX9_codeAt_3 : decode cX9_codeAt 3 = .ok (.invokevirtual 105, 3) := by decide +kernel
theorem dX9_codeAt_6 : decode cX9_codeAt 6 = .ok (.ifCond .ne 7, 3) := by decide +kernel
theorem dX9_codeAt_9 : decode cX9_codeAt 9 = .ok (.iconst 1, 1) := by decide +kernel
theorem dX9_codeAt_10 : decode cX9_codeAt 10 = .ok (.goto 26, 3) := by decide +kernel
theorem dX9_codeAt_13 : decode cX9_codeAt 13 = .ok (.iload_n 2, 1) := by decide +kernel
theorem dX9_codeAt_14 : decode cX9_codeAt 14 = .ok (.i2l, 1) := by decide +kernel
theorem dX9_codeAt_15 : decode cX9_codeAt 15 = .ok (.lconst 0, 1) := by decide +kernel
theorem dX9_codeAt_16 : decode cX9_codeAt 16 = .ok (.aload_n 0, 1) := by decide +kernel
theorem dX9_codeAt_17 : decode cX9_codeAt 17 = .ok (.getfield 13, 3) := by decide +kernel
theorem dX9_codeAt_20 : decode cX9_codeAt 20 = .ok (.iload_n 1, 1) := by decide +kernel
theorem dX9_codeAt_21 : decode cX9_codeAt 21 = .ok (.iaload, 1) := by decide +kernel
theorem dX9_codeAt_22 : decode cX9_codeAt 22 = .ok (.iconst 1, 1) := by decide +kernel
theorem dX9_codeAt_23 : decode cX9_codeAt 23 = .ok (.isub, 1) := by decide +kernel
theorem dX9_codeAt_24 : decode cX9_codeAt 24 = .ok (.i2l, 1) := by decide +kernel
theorem dX9_codeAt_25 : decode cX9_codeAt 25 = .ok (.invokestatic 84, 3) := by decide +kernel
theorem dX9_codeAt_28 : decode cX9_codeAt 28 = .ok (.ifCond .ne 7, 3) := by decide +kernel
theorem dX9_codeAt_31 : decode cX9_codeAt 31 = .ok (.iconst 2, 1) := by decide +kernel
theorem dX9_codeAt_32 : decode cX9_codeAt 32 = .ok (.goto 4, 3) := by decide +kernel
theorem dX9_codeAt_35 : decode cX9_codeAt 35 = .ok (.iconst 0, 1) := by decide +kernel
theorem dX9_codeAt_36 : decode cX9_codeAt 36 = .ok (.putfield 78, 3) := by decide +kernel
theorem dX9_codeAt_39 : decode cX9_codeAt 39 = .ok (.aload_n 0, 1) := by decide +kernel
theorem dX9_codeAt_40 : decode cX9_codeAt 40 = .ok (.getfield 78, 3) := by decide +kernel
theorem dX9_codeAt_43 : decode cX9_codeAt 43 = .ok (.ifCond .ne 17, 3) := by decide +kernel
theorem dX9_codeAt_46 : decode cX9_codeAt 46 = .ok (.aload_n 0, 1) := by decide +kernel
theorem dX9_codeAt_47 : decode cX9_codeAt 47 = .ok (.getfield 7, 3) := by decide +kernel
theorem dX9_codeAt_50 : decode cX9_codeAt 50 = .ok (.bipush 80, 2) := by decide +kernel
theorem dX9_codeAt_52 : decode cX9_codeAt 52 = .ok (.iload_n 1, 1) := by decide +kernel
theorem dX9_codeAt_53 : decode cX9_codeAt 53 = .ok (.imul, 1) := by decide +kernel
theorem dX9_codeAt_54 : decode cX9_codeAt 54 = .ok (.iload_n 2, 1) := by decide +kernel
theorem dX9_codeAt_55 : decode cX9_codeAt 55 = .ok (.iadd, 1) := by decide +kernel
theorem dX9_codeAt_56 : decode cX9_codeAt 56 = .ok (.iaload, 1) := by decide +kernel
theorem dX9_codeAt_57 : decode cX9_codeAt 57 = .ok (.goto 4, 3) := by decide +kernel
theorem dX9_codeAt_60 : decode cX9_codeAt 60 = .ok (.iconst (-1), 1) := by decide +kernel
theorem dX9_codeAt_61 : decode cX9_codeAt 61 = .ok (.ireturn, 1) := by decide +kernel
theorem dX9_version_0 : decode cX9_version 0 = .ok (.aload_n 0, 1) := by decide +kernel
theorem dX9_version_1 : decode cX9_version 1 = .ok (.iload_n 1, 1) := by decide +kernel
theorem dX9_version_2 : decode cX9_version 2 = .ok (.invokevirtual 122, 3) := by decide +kernel
theorem dX9_version_5 : decode cX9_version 5 = .ok (.ifCond .eq 12, 3) := by decide +kernel
theorem dX9_version_8 : decode cX9_version 8 = .ok (.aload_n 0, 1) := by decide +kernel
theorem dX9_version_9 : decode cX9_version 9 = .ok (.getfield 16, 3) := by decide +kernel
theorem dX9_version_12 : decode cX9_version 12 = .ok (.iload_n 1, 1) := by decide +kernel
theorem dX9_version_13 : decode cX9_version 13 = .ok (.iaload, 1) := by decide +kernel
theorem dX9_version_14 : decode cX9_version 14 = .ok (.goto 4, 3) := by decide +kernel
theorem dX9_version_17 : decode cX9_version 17 = .ok (.iconst (-1), 1) := by decide +kernel
theorem dX9_version_18 : decode cX9_version 18 = .ok (.ireturn, 1) := by decide +kernel
theorem dX9_comment_0 : decode cX9_comment 0 = .ok (.aload_n 0, 1) := by decide +kernel
theorem dX9_comment_1 : decode cX9_comment 1 = .ok (.iload_n 1, 1) := by decide +kernel
theorem dX9_comment_2 : decode cX9_comment 2 = .ok (.invokevirtual 105, 3) := by decide +kernel
theorem dX9_comment_5 : decode cX9_comment 5 = .ok (.ifCond .ne 10, 3) := by decide +kernel
theorem dX9_comment_8 : decode cX9_comment 8 = .ok (.aload_n 0, 1) := by decide +kernel
theorem dX9_comment_9 : decode cX9_comment 9 = .ok (.iconst 1, 1) := by decide +kernel
theorem dX9_comment_10 : decode cX9_comment 10 = .ok (.putfield 78, 3) := by decide +kernel
theorem dX9_comment_13 : decode cX9_comment 13 = .ok (.iconst (-1), 1) := by decide +kernel
theorem dX9_comment_14 : decode cX9_comment 14 = .ok (.ireturn, 1) := by decide +kernel
theorem dX9_comment_15 : decode cX9_comment 15 = .ok (.iload_n 2, 1) := by decide +kernel
theorem dX9_comment_16 : decode cX9_comment 16 = .ok (.i2l, 1) := by decide +kernel
theorem dX9_comment_17 : decode cX9_comment 17 = .ok (.lconst 0, 1) := by decide +kernel
theorem dX9_comment_18 : decode cX9_comment 18 = .ok (.aload_n 0, 1) := by decide +kernel
theorem dX9_comment_19 : decode cX9_comment 19 = .ok (.getfield 13, 3) := by decide +kernel
theorem dX9_comment_22 : decode cX9_comment 22 = .ok (.iload_n 1, 1) := by decide +kernel
theorem dX9_comment_23 : decode cX9_comment 23 = .ok (.iaload, 1) := by decide +kernel
theorem dX9_comment_24 : decode cX9_comment 24 = .ok (.iconst 1, 1) := by decide +kernel
theorem dX9_comment_25 : decode cX9_comment 25 = .ok (.isub, 1) := by decide +kernel
theorem dX9_comment_26 : decode cX9_comment 26 = .ok (.i2l, 1) := by decide +kernel
theorem dX9_comment_27 : decode cX9_comment 27 = .ok (.invokestatic 84, 3) := by decide +kernel
theorem dX9_comment_30 : decode cX9_comment 30 = .ok (.ifCond .eq 26, 3) := by decide +kernel
theorem dX9_comment_33 : decode cX9_comment 33 = .ok (.iload_n 3, 1) := by decide +kernel
theorem dX9_comment_34 : decode cX9_comment 34 = .ok (.i2l, 1) := by decide +kernel
theorem dX9_comment_35 : decode cX9_comment 35 = .ok (.iload_n 2, 1) := by decide +kernel
theorem dX9_comment_36 : decode cX9_comment 36 = .ok (.iconst 1, 1) := by decide +kernel
theorem dX9_comment_37 : decode cX9_comment 37 = .ok (.iadd, 1) := by decide +kernel
theorem dX9_comment_38 : decode cX9_comment 38 = .ok (.i2l, 1) := by decide +kernel
theorem dX9_comment_39 : decode cX9_comment 39 = .ok (.aload_n 0, 1) := by decide +kernel
theorem dX9_comment_40 : decode cX9_comment 40 = .ok (.getfield 13, 3) := by decide +kernel
theorem dX9_comment_43 : decode cX9_comment 43 = .ok (.iload_n 1, 1) := by decide +kernel
theorem dX9_comment_44 : decode cX9_comment 44 = .ok (.iaload, 1) := by decide +kernel
theorem dX9_comment_45 : decode cX9_comment 45 = .ok (.i2l, 1) := by decide +kernel
theorem dX9_comment_46 : decode cX9_comment 46 = .ok (.invokestatic 84, 3) := by decide +kernel
theorem dX9_comment_49 : decode cX9_comment 49 = .ok (.ifCond .eq 7, 3) := by decide +kernel
theorem dX9_comment_52 : decode cX9_comment 52 = .ok (.iconst 1, 1) := by decide +kernel
theorem dX9_comment_53 : decode cX9_comment 53 = .ok (.goto 4, 3) := by decide +kernel
theorem dX9_comment_56 : decode cX9_comment 56 = .ok (.iconst 0, 1) := by decide +kernel
theorem dX9_comment_57 : decode cX9_comment 57 = .ok (.istore 4, 2) := by decide +kernel
theorem dX9_comment_59 : decode cX9_comment 59 = .ok (.aload_n 0, 1) := by decide +kernel
theorem dX9_comment_60 : decode cX9_comment 60 = .ok (.iload 4, 2) := by decide +kernel
theorem dX9_comment_62 : decode cX9_comment 62 = .ok (.ifCond .ne 7, 3) := by decide +kernel
theorem dX9_comment_65 : decode cX9_comment 65 = .ok (.iconst 2, 1) := by decide +kernel
theorem dX9_comment_66 : decode cX9_comment 66 = .ok (.goto 17, 3) := by decide +kernel
theorem dX9_comment_69 : decode cX9_comment 69 = .ok (.aload_n 0, 1) := by decide +kernel
theorem dX9_comment_70 : decode cX9_comment 70 = .ok (.getfield 91, 3) := by decide +kernel
theorem dX9_comment_73 : decode cX9_comment 73 = .ok (.bipush 8, 2) := by decide +kernel
theorem dX9_comment_75 : decode cX9_comment 75 = .ok (.if_icmp .ne 7, 3) := by decide +kernel
theorem dX9_comment_78 : decode cX9_comment 78 = .ok (.iconst 3, 1) := by decide +kernel
theorem dX9_comment_79 : decode cX9_comment 79 = .ok (.goto 4, 3) := by decide +kernel
theorem dX9_comment_82 : decode cX9_comment 82 = .ok (.iconst 0, 1) := by decide +kernel
theorem dX9_comment_83 : decode cX9_comment 83 = .ok (.putfield 78, 3) := by decide +kernel
theorem dX9_comment_86 : decode cX9_comment 86 = .ok (.aload_n 0, 1) := by decide +kernel
theorem dX9_comment_87 : decode cX9_comment 87 = .ok (.getfield 78, 3) := by decide +kernel
theorem dX9_comment_90 : decode cX9_comment 90 = .ok (.ifCond .le 5, 3) := by decide +kernel
theorem dX9_comment_93 : decode cX9_comment 93 = .ok (.iconst (-1), 1) := by decide +kernel
theorem dX9_comment_94 : decode cX9_comment 94 = .ok (.ireturn, 1) := by decide +kernel
theorem dX9_comment_95 : decode cX9_comment 95 = .ok (.aload_n 0, 1) := by decide +kernel
theorem dX9_comment_96 : decode cX9_comment 96 = .ok (.getfield 31, 3) := by decide +kernel
theorem dX9_comment_99 : decode cX9_comment 99 = .ok (.aload_n 0, 1) := by decide +kernel
theorem dX9_comment_100 : decode cX9_comment 100 = .ok (.getfield 91, 3) := by decide +kernel
theorem dX9_comment_103 : decode cX9_comment 103 = .ok (.iload_n 1, 1) := by decide +kernel
theorem dX9_comment_104 : decode cX9_comment 104 = .ok (.iastore, 1) := by decide +kernel
theorem dX9_comment_105 : decode cX9_comment 105 = .ok (.aload_n 0, 1) := by decide +kernel
theorem dX9_comment_106 : decode cX9_comment 106 = .ok (.getfield 34, 3) := by decide +kernel
theorem dX9_comment_109 : decode cX9_comment 109 = .ok (.aload_n 0, 1) := by decide +kernel
theorem dX9_comment_110 : decode cX9_comment 110 = .ok (.getfield 91, 3) := by decide +kernel
theorem dX9_comment_113 : decode cX9_comment 113 = .ok (.iload_n 2, 1) := by decide +kernel
theorem dX9_comment_114 : decode cX9_comment 114 = .ok (.iastore, 1) := by decide +kernel
theorem dX9_comment_115 : decode cX9_comment 115 = .ok (.aload_n 0, 1) := by decide +kernel
theorem dX9_comment_116 : decode cX9_comment 116 = .ok (.getfield 37, 3) := by decide +kernel
theorem dX9_comment_119 : decode cX9_comment 119 = .ok (.aload_n 0, 1) := by decide +kernel
theorem dX9_comment_120 : decode cX9_comment 120 = .ok (.getfield 91, 3) := by decide +kernel
theorem dX9_comment_123 : decode cX9_comment 123 = .ok (.iload_n 3, 1) := by decide +kernel
theorem dX9_comment_124 : decode cX9_comment 124 = .ok (.iastore, 1) := by decide +kernel
theorem dX9_comment_125 : decode cX9_comment 125 = .ok (.aload_n 0, 1) := by decide +kernel
theorem dX9_comment_126 : decode cX9_comment 126 = .ok (.getfield 40, 3) := by decide +kernel
theorem dX9_comment_129 : decode cX9_comment 129 = .ok (.aload_n 0, 1) := by decide +kernel
theorem dX9_comment_130 : decode cX9_comment 130 = .ok (.getfield 91, 3) := by decide +kernel
theorem dX9_comment_133 : decode cX9_comment 133 = .ok (.iconst 1, 1) := by decide +kernel
theorem dX9_comment_134 : decode cX9_comment 134 = .ok (.bastore, 1) := by decide +kernel
theorem dX9_comment_135 : decode cX9_comment 135 = .ok (.aload_n 0, 1) := by decide +kernel
theorem dX9_comment_136 : decode cX9_comment 136 = .ok (.dup, 1) := by decide +kernel
theorem dX9_comment_137 : decode cX9_comment 137 = .ok (.getfield 91, 3) := by decide +kernel
theorem dX9_comment_140 : decode cX9_comment 140 = .ok (.iconst 1, 1) := by decide +kernel
theorem dX9_comment_141 : decode cX9_comment 141 = .ok (.iadd, 1) := by decide +kernel
theorem dX9_comment_142 : decode cX9_comment 142 = .ok (.putfield 91, 3) := by decide +kernel
theorem dX9_comment_145 : decode cX9_comment 145 = .ok (.aload_n 0, 1) := by decide +kernel
theorem dX9_comment_146 : decode cX9_comment 146 = .ok (.getfield 91, 3) := by decide +kernel
theorem dX9_comment_149 : decode cX9_comment 149 = .ok (.iconst 1, 1) := by decide +kernel
theorem dX9_comment_150 : decode cX9_comment 150 = .ok (.isub, 1) := by decide +kernel
theorem dX9_comment_151 : decode cX9_comment 151 = .ok (.ireturn, 1) := by decide +kernel
theorem dX9_openOn_0 : decode cX9_openOn 0 = .ok (.iconst 0, 1) := by decide +kernel
theorem dX9_openOn_1 : decode cX9_openOn 1 = .ok (.istore_n 2, 1) := by decide +kernel
theorem dX9_openOn_2 : decode cX9_openOn 2 = .ok (.iconst 0, 1) := by decide +kernel
theorem dX9_openOn_3 : decode cX9_openOn 3 = .ok (.istore_n 3, 1) := by decide +kernel
theorem dX9_openOn_4 : decode cX9_openOn 4 = .ok (.iload_n 3, 1) := by decide +kernel
theorem dX9_openOn_5 : decode cX9_openOn 5 = .ok (.aload_n 0, 1) := by decide +kernel
theorem dX9_openOn_6 : decode cX9_openOn 6 = .ok (.getfield 91, 3) := by decide +kernel
theorem dX9_openOn_9 : decode cX9_openOn 9 = .ok (.if_icmp .ge 36, 3) := by decide +kernel
theorem dX9_openOn_12 : decode cX9_openOn 12 = .ok (.iload_n 2, 1) := by decide +kernel
theorem dX9_openOn_13 : decode cX9_openOn 13 = .ok (.aload_n 0, 1) := by decide +kernel
theorem dX9_openOn_14 : decode cX9_openOn 14 = .ok (.getfield 40, 3) := by decide +kernel
theorem dX9_openOn_17 : decode cX9_openOn 17 = .ok (.iload_n 3, 1) := by decide +kernel
theorem dX9_openOn_18 : decode cX9_openOn 18 = .ok (.baload, 1) := by decide +kernel
theorem dX9_openOn_19 : decode cX9_openOn 19 = .ok (.ifCond .eq 17, 3) := by decide +kernel
theorem dX9_openOn_22 : decode cX9_openOn 22 = .ok (.aload_n 0, 1) := by decide +kernel
theorem dX9_openOn_23 : decode cX9_openOn 23 = .ok (.getfield 31, 3) := by decide +kernel
theorem dX9_openOn_26 : decode cX9_openOn 26 = .ok (.iload_n 3, 1) := by decide +kernel
theorem dX9_openOn_27 : decode cX9_openOn 27 = .ok (.iaload, 1) := by decide +kernel
theorem dX9_openOn_28 : decode cX9_openOn 28 = .ok (.iload_n 1, 1) := by decide +kernel
theorem dX9_openOn_29 : decode cX9_openOn 29 = .ok (.if_icmp .ne 7, 3) := by decide +kernel
theorem dX9_openOn_32 : decode cX9_openOn 32 = .ok (.iconst 1, 1) := by decide +kernel
theorem dX9_openOn_33 : decode cX9_openOn 33 = .ok (.goto 4, 3) := by decide +kernel
theorem dX9_openOn_36 : decode cX9_openOn 36 = .ok (.iconst 0, 1) := by decide +kernel
theorem dX9_openOn_37 : decode cX9_openOn 37 = .ok (.iadd, 1) := by decide +kernel
theorem dX9_openOn_38 : decode cX9_openOn 38 = .ok (.istore_n 2, 1) := by decide +kernel
theorem dX9_openOn_39 : decode cX9_openOn 39 = .ok (.iinc 3 1, 3) := by decide +kernel
theorem dX9_openOn_42 : decode cX9_openOn 42 = .ok (.goto (-38), 3) := by decide +kernel
theorem dX9_openOn_45 : decode cX9_openOn 45 = .ok (.iload_n 2, 1) := by decide +kernel
theorem dX9_openOn_46 : decode cX9_openOn 46 = .ok (.ireturn, 1) := by decide +kernel
theorem dX9_isComment_0 : decode cX9_isComment 0 = .ok (.iload_n 1, 1) := by decide +kernel
theorem dX9_isComment_1 : decode cX9_isComment 1 = .ok (.i2l, 1) := by decide +kernel
theorem dX9_isComment_2 : decode cX9_isComment 2 = .ok (.lconst 0, 1) := by decide +kernel
theorem dX9_isComment_3 : decode cX9_isComment 3 = .ok (.aload_n 0, 1) := by decide +kernel
theorem dX9_isComment_4 : decode cX9_isComment 4 = .ok (.getfield 91, 3) := by decide +kernel
theorem dX9_isComment_7 : decode cX9_isComment 7 = .ok (.iconst 1, 1) := by decide +kernel
theorem dX9_isComment_8 : decode cX9_isComment 8 = .ok (.isub, 1) := by decide +kernel
theorem dX9_isComment_9 : decode cX9_isComment 9 = .ok (.i2l, 1) := by decide +kernel
theorem dX9_isComment_10 : decode cX9_isComment 10 = .ok (.invokestatic 84, 3) := by decide +kernel
theorem dX9_isComment_13 : decode cX9_isComment 13 = .ok (.ireturn, 1) := by decide +kernel
theorem dX9_answer_0 : decode cX9_answer 0 = .ok (.aload_n 0, 1) := by decide +kernel
theorem dX9_answer_1 : decode cX9_answer 1 = .ok (.aload_n 0, 1) := by decide +kernel
theorem dX9_answer_2 : decode cX9_answer 2 = .ok (.iload_n 1, 1) := by decide +kernel
theorem dX9_answer_3 : decode cX9_answer 3 = .ok (.invokevirtual 125, 3) := by decide +kernel
theorem dX9_answer_6 : decode cX9_answer 6 = .ok (.ifCond .ne 7, 3) := by decide +kernel
theorem dX9_answer_9 : decode cX9_answer 9 = .ok (.iconst 1, 1) := by decide +kernel
theorem dX9_answer_10 : decode cX9_answer 10 = .ok (.goto 17, 3) := by decide +kernel
theorem dX9_answer_13 : decode cX9_answer 13 = .ok (.aload_n 0, 1) := by decide +kernel
theorem dX9_answer_14 : decode cX9_answer 14 = .ok (.getfield 40, 3) := by decide +kernel
theorem dX9_answer_17 : decode cX9_answer 17 = .ok (.iload_n 1, 1) := by decide +kernel
theorem dX9_answer_18 : decode cX9_answer 18 = .ok (.baload, 1) := by decide +kernel
theorem dX9_answer_19 : decode cX9_answer 19 = .ok (.ifCond .ne 7, 3) := by decide +kernel
theorem dX9_answer_22 : decode cX9_answer 22 = .ok (.iconst 2, 1) := by decide +kernel
theorem dX9_answer_23 : decode cX9_answer 23 = .ok (.goto 4, 3) := by decide +kernel
theorem dX9_answer_26 : decode cX9_answer 26 = .ok (.iconst 0, 1) := by decide +kernel
theorem dX9_answer_27 : decode cX9_answer 27 = .ok (.putfield 78, 3) := by decide +kernel
theorem dX9_answer_30 : decode cX9_answer 30 = .ok (.aload_n 0, 1) := by decide +kernel
theorem dX9_answer_31 : decode cX9_answer 31 = .ok (.getfield 78, 3) := by decide +kernel
theorem dX9_answer_34 : decode cX9_answer 34 = .ok (.ifCond .le 5, 3) := by decide +kernel
theorem dX9_answer_37 : decode cX9_answer 37 = .ok (.iconst (-1), 1) := by decide +kernel
theorem dX9_answer_38 : decode cX9_answer 38 = .ok (.ireturn, 1) := by decide +kernel
theorem dX9_answer_39 : decode cX9_answer 39 = .ok (.aload_n 0, 1) := by decide +kernel
theorem dX9_answer_40 : decode cX9_answer 40 = .ok (.getfield 40, 3) := by decide +kernel
theorem dX9_answer_43 : decode cX9_answer 43 = .ok (.iload_n 1, 1) := by decide +kernel
theorem dX9_answer_44 : decode cX9_answer 44 = .ok (.iconst 0, 1) := by decide +kernel
theorem dX9_answer_45 : decode cX9_answer 45 = .ok (.bastore, 1) := by decide +kernel
theorem dX9_answer_46 : decode cX9_answer 46 = .ok (.aload_n 0, 1) := by decide +kernel
theorem dX9_answer_47 : decode cX9_answer 47 = .ok (.aload_n 0, 1) := by decide +kernel
theorem dX9_answer_48 : decode cX9_answer 48 = .ok (.getfield 31, 3) := by decide +kernel
theorem dX9_answer_51 : decode cX9_answer 51 = .ok (.iload_n 1, 1) := by decide +kernel
theorem dX9_answer_52 : decode cX9_answer 52 = .ok (.iaload, 1) := by decide +kernel
theorem dX9_answer_53 : decode cX9_answer 53 = .ok (.invokevirtual 128, 3) := by decide +kernel
theorem dX9_answer_56 : decode cX9_answer 56 = .ok (.ireturn, 1) := by decide +kernel
theorem dX9_isOpen_0 : decode cX9_isOpen 0 = .ok (.aload_n 0, 1) := by decide +kernel
theorem dX9_isOpen_1 : decode cX9_isOpen 1 = .ok (.aload_n 0, 1) := by decide +kernel
theorem dX9_isOpen_2 : decode cX9_isOpen 2 = .ok (.iload_n 1, 1) := by decide +kernel
theorem dX9_isOpen_3 : decode cX9_isOpen 3 = .ok (.invokevirtual 125, 3) := by decide +kernel
theorem dX9_isOpen_6 : decode cX9_isOpen 6 = .ok (.ifCond .eq 7, 3) := by decide +kernel
theorem dX9_isOpen_9 : decode cX9_isOpen 9 = .ok (.iconst 0, 1) := by decide +kernel
theorem dX9_isOpen_10 : decode cX9_isOpen 10 = .ok (.goto 4, 3) := by decide +kernel
theorem dX9_isOpen_13 : decode cX9_isOpen 13 = .ok (.iconst 1, 1) := by decide +kernel
theorem dX9_isOpen_14 : decode cX9_isOpen 14 = .ok (.putfield 78, 3) := by decide +kernel
theorem dX9_isOpen_17 : decode cX9_isOpen 17 = .ok (.aload_n 0, 1) := by decide +kernel
theorem dX9_isOpen_18 : decode cX9_isOpen 18 = .ok (.getfield 78, 3) := by decide +kernel
theorem dX9_isOpen_21 : decode cX9_isOpen 21 = .ok (.ifCond .ne 16, 3) := by decide +kernel
theorem dX9_isOpen_24 : decode cX9_isOpen 24 = .ok (.aload_n 0, 1) := by decide +kernel
theorem dX9_isOpen_25 : decode cX9_isOpen 25 = .ok (.getfield 40, 3) := by decide +kernel
theorem dX9_isOpen_28 : decode cX9_isOpen 28 = .ok (.iload_n 1, 1) := by decide +kernel
theorem dX9_isOpen_29 : decode cX9_isOpen 29 = .ok (.baload, 1) := by decide +kernel
theorem dX9_isOpen_30 : decode cX9_isOpen 30 = .ok (.ifCond .eq 7, 3) := by decide +kernel
theorem dX9_isOpen_33 : decode cX9_isOpen 33 = .ok (.iconst 1, 1) := by decide +kernel
theorem dX9_isOpen_34 : decode cX9_isOpen 34 = .ok (.goto 4, 3) := by decide +kernel
theorem dX9_isOpen_37 : decode cX9_isOpen 37 = .ok (.iconst 0, 1) := by decide +kernel
theorem dX9_isOpen_38 : decode cX9_isOpen 38 = .ok (.ireturn, 1) := by decide +kernel
theorem dX9_spanFrom_0 : decode cX9_spanFrom 0 = .ok (.aload_n 0, 1) := by decide +kernel
theorem dX9_spanFrom_1 : decode cX9_spanFrom 1 = .ok (.aload_n 0, 1) := by decide +kernel
theorem dX9_spanFrom_2 : decode cX9_spanFrom 2 = .ok (.iload_n 1, 1) := by decide +kernel
theorem dX9_spanFrom_3 : decode cX9_spanFrom 3 = .ok (.invokevirtual 125, 3) := by decide +kernel
theorem dX9_spanFrom_6 : decode cX9_spanFrom 6 = .ok (.ifCond .ne 7, 3) := by decide +kernel
theorem dX9_spanFrom_9 : decode cX9_spanFrom 9 = .ok (.iconst 1, 1) := by decide +kernel
theorem dX9_spanFrom_10 : decode cX9_spanFrom 10 = .ok (.goto 17, 3) := by decide +kernel
theorem dX9_spanFrom_13 : decode cX9_spanFrom 13 = .ok (.aload_n 0, 1) := by decide +kernel
theorem dX9_spanFrom_14 : decode cX9_spanFrom 14 = .ok (.getfield 40, 3) := by decide +kernel
theorem dX9_spanFrom_17 : decode cX9_spanFrom 17 = .ok (.iload_n 1, 1) := by decide +kernel
theorem dX9_spanFrom_18 : decode cX9_spanFrom 18 = .ok (.baload, 1) := by decide +kernel
theorem dX9_spanFrom_19 : decode cX9_spanFrom 19 = .ok (.ifCond .ne 7, 3) := by decide +kernel
theorem dX9_spanFrom_22 : decode cX9_spanFrom 22 = .ok (.iconst 2, 1) := by decide +kernel
theorem dX9_spanFrom_23 : decode cX9_spanFrom 23 = .ok (.goto 4, 3) := by decide +kernel
theorem dX9_spanFrom_26 : decode cX9_spanFrom 26 = .ok (.iconst 0, 1) := by decide +kernel
theorem dX9_spanFrom_27 : decode cX9_spanFrom 27 = .ok (.putfield 78, 3) := by decide +kernel
theorem dX9_spanFrom_30 : decode cX9_spanFrom 30 = .ok (.aload_n 0, 1) := by decide +kernel
theorem dX9_spanFrom_31 : decode cX9_spanFrom 31 = .ok (.getfield 78, 3) := by decide +kernel
theorem dX9_spanFrom_34 : decode cX9_spanFrom 34 = .ok (.ifCond .ne 12, 3) := by decide +kernel
theorem dX9_spanFrom_37 : decode cX9_spanFrom 37 = .ok (.aload_n 0, 1) := by decide +kernel
theorem dX9_spanFrom_38 : decode cX9_spanFrom 38 = .ok (.getfield 34, 3) := by decide +kernel
theorem dX9_spanFrom_41 : decode cX9_spanFrom 41 = .ok (.iload_n 1, 1) := by decide +kernel
theorem dX9_spanFrom_42 : decode cX9_spanFrom 42 = .ok (.iaload, 1) := by decide +kernel
theorem dX9_spanFrom_43 : decode cX9_spanFrom 43 = .ok (.goto 4, 3) := by decide +kernel
theorem dX9_spanFrom_46 : decode cX9_spanFrom 46 = .ok (.iconst (-1), 1) := by decide +kernel
theorem dX9_spanFrom_47 : decode cX9_spanFrom 47 = .ok (.ireturn, 1) := by decide +kernel
theorem dX9_spanTo_0 : decode cX9_spanTo 0 = .ok (.aload_n 0, 1) := by decide +kernel
theorem dX9_spanTo_1 : decode cX9_spanTo 1 = .ok (.aload_n 0, 1) := by decide +kernel
theorem dX9_spanTo_2 : decode cX9_spanTo 2 = .ok (.iload_n 1, 1) := by decide +kernel
theorem dX9_spanTo_3 : decode cX9_spanTo 3 = .ok (.invokevirtual 125, 3) := by decide +kernel
theorem dX9_spanTo_6 : decode cX9_spanTo 6 = .ok (.ifCond .ne 7, 3) := by decide +kernel
theorem dX9_spanTo_9 : decode cX9_spanTo 9 = .ok (.iconst 1, 1) := by decide +kernel
theorem dX9_spanTo_10 : decode cX9_spanTo 10 = .ok (.goto 17, 3) := by decide +kernel
theorem dX9_spanTo_13 : decode cX9_spanTo 13 = .ok (.aload_n 0, 1) := by decide +kernel
theorem dX9_spanTo_14 : decode cX9_spanTo 14 = .ok (.getfield 40, 3) := by decide +kernel
theorem dX9_spanTo_17 : decode cX9_spanTo 17 = .ok (.iload_n 1, 1) := by decide +kernel
theorem dX9_spanTo_18 : decode cX9_spanTo 18 = .ok (.baload, 1) := by decide +kernel
theorem dX9_spanTo_19 : decode cX9_spanTo 19 = .ok (.ifCond .ne 7, 3) := by decide +kernel
theorem dX9_spanTo_22 : decode cX9_spanTo 22 = .ok (.iconst 2, 1) := by decide +kernel
theorem dX9_spanTo_23 : decode cX9_spanTo 23 = .ok (.goto 4, 3) := by decide +kernel
theorem dX9_spanTo_26 : decode cX9_spanTo 26 = .ok (.iconst 0, 1) := by decide +kernel
theorem dX9_spanTo_27 : decode cX9_spanTo 27 = .ok (.putfield 78, 3) := by decide +kernel
theorem dX9_spanTo_30 : decode cX9_spanTo 30 = .ok (.aload_n 0, 1) := by decide +kernel
theorem dX9_spanTo_31 : decode cX9_spanTo 31 = .ok (.getfield 78, 3) := by decide +kernel
theorem dX9_spanTo_34 : decode cX9_spanTo 34 = .ok (.ifCond .ne 12, 3) := by decide +kernel
theorem dX9_spanTo_37 : decode cX9_spanTo 37 = .ok (.aload_n 0, 1) := by decide +kernel
theorem dX9_spanTo_38 : decode cX9_spanTo 38 = .ok (.getfield 37, 3) := by decide +kernel
theorem dX9_spanTo_41 : decode cX9_spanTo 41 = .ok (.iload_n 1, 1) := by decide +kernel
theorem dX9_spanTo_42 : decode cX9_spanTo 42 = .ok (.iaload, 1) := by decide +kernel
theorem dX9_spanTo_43 : decode cX9_spanTo 43 = .ok (.goto 4, 3) := by decide +kernel
theorem dX9_spanTo_46 : decode cX9_spanTo 46 = .ok (.iconst (-1), 1) := by decide +kernel
theorem dX9_spanTo_47 : decode cX9_spanTo 47 = .ok (.ireturn, 1) := by decide +kernel
theorem dX9_sheetsOf_0 : decode cX9_sheetsOf 0 = .ok (.aload_n 0, 1) := by decide +kernel
theorem dX9_sheetsOf_1 : decode cX9_sheetsOf 1 = .ok (.getfield 25, 3) := by decide +kernel
theorem dX9_sheetsOf_4 : decode cX9_sheetsOf 4 = .ok (.iload_n 1, 1) := by decide +kernel
theorem dX9_sheetsOf_5 : decode cX9_sheetsOf 5 = .ok (.iaload, 1) := by decide +kernel
theorem dX9_sheetsOf_6 : decode cX9_sheetsOf 6 = .ok (.bipush 7, 2) := by decide +kernel
theorem dX9_sheetsOf_8 : decode cX9_sheetsOf 8 = .ok (.iadd, 1) := by decide +kernel
theorem dX9_sheetsOf_9 : decode cX9_sheetsOf 9 = .ok (.bipush 8, 2) := by decide +kernel
theorem dX9_sheetsOf_11 : decode cX9_sheetsOf 11 = .ok (.idiv, 1) := by decide +kernel
theorem dX9_sheetsOf_12 : decode cX9_sheetsOf 12 = .ok (.istore_n 2, 1) := by decide +kernel
theorem dX9_sheetsOf_13 : decode cX9_sheetsOf 13 = .ok (.iload_n 2, 1) := by decide +kernel
theorem dX9_sheetsOf_14 : decode cX9_sheetsOf 14 = .ok (.iconst 3, 1) := by decide +kernel
theorem dX9_sheetsOf_15 : decode cX9_sheetsOf 15 = .ok (.iadd, 1) := by decide +kernel
theorem dX9_sheetsOf_16 : decode cX9_sheetsOf 16 = .ok (.iconst 4, 1) := by decide +kernel
theorem dX9_sheetsOf_17 : decode cX9_sheetsOf 17 = .ok (.idiv, 1) := by decide +kernel
theorem dX9_sheetsOf_18 : decode cX9_sheetsOf 18 = .ok (.ireturn, 1) := by decide +kernel
theorem dX9_sign_0 : decode cX9_sign 0 = .ok (.aload_n 0, 1) := by decide +kernel
theorem dX9_sign_1 : decode cX9_sign 1 = .ok (.iload_n 1, 1) := by decide +kernel
theorem dX9_sign_2 : decode cX9_sign 2 = .ok (.invokevirtual 105, 3) := by decide +kernel
theorem dX9_sign_5 : decode cX9_sign 5 = .ok (.ifCond .ne 10, 3) := by decide +kernel
theorem dX9_sign_8 : decode cX9_sign 8 = .ok (.aload_n 0, 1) := by decide +kernel
theorem dX9_sign_9 : decode cX9_sign 9 = .ok (.iconst 1, 1) := by decide +kernel
theorem dX9_sign_10 : decode cX9_sign 10 = .ok (.putfield 78, 3) := by decide +kernel
theorem dX9_sign_13 : decode cX9_sign 13 = .ok (.iconst (-1), 1) := by decide +kernel
theorem dX9_sign_14 : decode cX9_sign 14 = .ok (.ireturn, 1) := by decide +kernel
theorem dX9_sign_15 : decode cX9_sign 15 = .ok (.aload_n 0, 1) := by decide +kernel
theorem dX9_sign_16 : decode cX9_sign 16 = .ok (.getfield 13, 3) := by decide +kernel
theorem dX9_sign_19 : decode cX9_sign 19 = .ok (.iload_n 1, 1) := by decide +kernel
theorem dX9_sign_20 : decode cX9_sign 20 = .ok (.iaload, 1) := by decide +kernel
theorem dX9_sign_21 : decode cX9_sign 21 = .ok (.ifCond .eq 26, 3) := by decide +kernel
theorem dX9_sign_24 : decode cX9_sign 24 = .ok (.aload_n 0, 1) := by decide +kernel
theorem dX9_sign_25 : decode cX9_sign 25 = .ok (.iload_n 1, 1) := by decide +kernel
theorem dX9_sign_26 : decode cX9_sign 26 = .ok (.invokevirtual 128, 3) := by decide +kernel
theorem dX9_sign_29 : decode cX9_sign 29 = .ok (.ifCond .gt 18, 3) := by decide +kernel
theorem dX9_sign_32 : decode cX9_sign 32 = .ok (.aload_n 0, 1) := by decide +kernel
theorem dX9_sign_33 : decode cX9_sign 33 = .ok (.getfield 16, 3) := by decide +kernel
theorem dX9_sign_36 : decode cX9_sign 36 = .ok (.iload_n 1, 1) := by decide +kernel
theorem dX9_sign_37 : decode cX9_sign 37 = .ok (.iaload, 1) := by decide +kernel
theorem dX9_sign_38 : decode cX9_sign 38 = .ok (.aload_n 0, 1) := by decide +kernel
theorem dX9_sign_39 : decode cX9_sign 39 = .ok (.getfield 28, 3) := by decide +kernel
theorem dX9_sign_42 : decode cX9_sign 42 = .ok (.iload_n 1, 1) := by decide +kernel
theorem dX9_sign_43 : decode cX9_sign 43 = .ok (.iaload, 1) := by decide +kernel
theorem dX9_sign_44 : decode cX9_sign 44 = .ok (.if_icmp .ne 7, 3) := by decide +kernel
theorem dX9_sign_47 : decode cX9_sign 47 = .ok (.iconst 1, 1) := by decide +kernel
theorem dX9_sign_48 : decode cX9_sign 48 = .ok (.goto 4, 3) := by decide +kernel
theorem dX9_sign_51 : decode cX9_sign 51 = .ok (.iconst 0, 1) := by decide +kernel
theorem dX9_sign_52 : decode cX9_sign 52 = .ok (.istore_n 2, 1) := by decide +kernel
theorem dX9_sign_53 : decode cX9_sign 53 = .ok (.aload_n 0, 1) := by decide +kernel
theorem dX9_sign_54 : decode cX9_sign 54 = .ok (.iload_n 2, 1) := by decide +kernel
theorem dX9_sign_55 : decode cX9_sign 55 = .ok (.ifCond .eq 7, 3) := by decide +kernel
theorem dX9_sign_58 : decode cX9_sign 58 = .ok (.iconst 2, 1) := by decide +kernel
theorem dX9_sign_59 : decode cX9_sign 59 = .ok (.goto 4, 3) := by decide +kernel
theorem dX9_sign_62 : decode cX9_sign 62 = .ok (.iconst 0, 1) := by decide +kernel
theorem dX9_sign_63 : decode cX9_sign 63 = .ok (.putfield 78, 3) := by decide +kernel
theorem dX9_sign_66 : decode cX9_sign 66 = .ok (.aload_n 0, 1) := by decide +kernel
theorem dX9_sign_67 : decode cX9_sign 67 = .ok (.getfield 78, 3) := by decide +kernel
theorem dX9_sign_70 : decode cX9_sign 70 = .ok (.ifCond .le 5, 3) := by decide +kernel
theorem dX9_sign_73 : decode cX9_sign 73 = .ok (.iconst (-1), 1) := by decide +kernel
theorem dX9_sign_74 : decode cX9_sign 74 = .ok (.ireturn, 1) := by decide +kernel
theorem dX9_sign_75 : decode cX9_sign 75 = .ok (.iconst 0, 1) := by decide +kernel
theorem dX9_sign_76 : decode cX9_sign 76 = .ok (.istore_n 3, 1) := by decide +kernel
theorem dX9_sign_77 : decode cX9_sign 77 = .ok (.iload_n 3, 1) := by decide +kernel
theorem dX9_sign_78 : decode cX9_sign 78 = .ok (.aload_n 0, 1) := by decide +kernel
theorem dX9_sign_79 : decode cX9_sign 79 = .ok (.getfield 13, 3) := by decide +kernel
theorem dX9_sign_82 : decode cX9_sign 82 = .ok (.iload_n 1, 1) := by decide +kernel
theorem dX9_sign_83 : decode cX9_sign 83 = .ok (.iaload, 1) := by decide +kernel
theorem dX9_sign_84 : decode cX9_sign 84 = .ok (.if_icmp .ge 31, 3) := by decide +kernel
theorem dX9_sign_87 : decode cX9_sign 87 = .ok (.aload_n 0, 1) := by decide +kernel
theorem dX9_sign_88 : decode cX9_sign 88 = .ok (.getfield 22, 3) := by decide +kernel
theorem dX9_sign_91 : decode cX9_sign 91 = .ok (.bipush 80, 2) := by decide +kernel
theorem dX9_sign_93 : decode cX9_sign 93 = .ok (.iload_n 1, 1) := by decide +kernel
theorem dX9_sign_94 : decode cX9_sign 94 = .ok (.imul, 1) := by decide +kernel
theorem dX9_sign_95 : decode cX9_sign 95 = .ok (.iload_n 3, 1) := by decide +kernel
theorem dX9_sign_96 : decode cX9_sign 96 = .ok (.iadd, 1) := by decide +kernel
theorem dX9_sign_97 : decode cX9_sign 97 = .ok (.aload_n 0, 1) := by decide +kernel
theorem dX9_sign_98 : decode cX9_sign 98 = .ok (.getfield 7, 3) := by decide +kernel
theorem dX9_sign_101 : decode cX9_sign 101 = .ok (.bipush 80, 2) := by decide +kernel
theorem dX9_sign_103 : decode cX9_sign 103 = .ok (.iload_n 1, 1) := by decide +kernel
theorem dX9_sign_104 : decode cX9_sign 104 = .ok (.imul, 1) := by decide +kernel
theorem dX9_sign_105 : decode cX9_sign 105 = .ok (.iload_n 3, 1) := by decide +kernel
theorem dX9_sign_106 : decode cX9_sign 106 = .ok (.iadd, 1) := by decide +kernel
theorem dX9_sign_107 : decode cX9_sign 107 = .ok (.iaload, 1) := by decide +kernel
theorem dX9_sign_108 : decode cX9_sign 108 = .ok (.iastore, 1) := by decide +kernel
theorem dX9_sign_109 : decode cX9_sign 109 = .ok (.iinc 3 1, 3) := by decide +kernel
theorem dX9_sign_112 : decode cX9_sign 112 = .ok (.goto (-35), 3) := by decide +kernel
theorem dX9_sign_115 : decode cX9_sign 115 = .ok (.aload_n 0, 1) := by decide +kernel
theorem dX9_sign_116 : decode cX9_sign 116 = .ok (.getfield 25, 3) := by decide +kernel
theorem dX9_sign_119 : decode cX9_sign 119 = .ok (.iload_n 1, 1) := by decide +kernel
theorem dX9_sign_120 : decode cX9_sign 120 = .ok (.aload_n 0, 1) := by decide +kernel
theorem dX9_sign_121 : decode cX9_sign 121 = .ok (.getfield 13, 3) := by decide +kernel
theorem dX9_sign_124 : decode cX9_sign 124 = .ok (.iload_n 1, 1) := by decide +kernel
theorem dX9_sign_125 : decode cX9_sign 125 = .ok (.iaload, 1) := by decide +kernel
theorem dX9_sign_126 : decode cX9_sign 126 = .ok (.iastore, 1) := by decide +kernel
theorem dX9_sign_127 : decode cX9_sign 127 = .ok (.aload_n 0, 1) := by decide +kernel
theorem dX9_sign_128 : decode cX9_sign 128 = .ok (.getfield 28, 3) := by decide +kernel
theorem dX9_sign_131 : decode cX9_sign 131 = .ok (.iload_n 1, 1) := by decide +kernel
theorem dX9_sign_132 : decode cX9_sign 132 = .ok (.aload_n 0, 1) := by decide +kernel
theorem dX9_sign_133 : decode cX9_sign 133 = .ok (.getfield 16, 3) := by decide +kernel
theorem dX9_sign_136 : decode cX9_sign 136 = .ok (.iload_n 1, 1) := by decide +kernel
theorem dX9_sign_137 : decode cX9_sign 137 = .ok (.iaload, 1) := by decide +kernel
theorem dX9_sign_138 : decode cX9_sign 138 = .ok (.iastore, 1) := by decide +kernel
theorem dX9_sign_139 : decode cX9_sign 139 = .ok (.aload_n 0, 1) := by decide +kernel
theorem dX9_sign_140 : decode cX9_sign 140 = .ok (.iload_n 1, 1) := by decide +kernel
theorem dX9_sign_141 : decode cX9_sign 141 = .ok (.invokevirtual 132, 3) := by decide +kernel
theorem dX9_sign_144 : decode cX9_sign 144 = .ok (.ireturn, 1) := by decide +kernel
theorem dX9_asksProof_0 : decode cX9_asksProof 0 = .ok (.aload_n 0, 1) := by decide +kernel
theorem dX9_asksProof_1 : decode cX9_asksProof 1 = .ok (.aload_n 0, 1) := by decide +kernel
theorem dX9_asksProof_2 : decode cX9_asksProof 2 = .ok (.iload_n 1, 1) := by decide +kernel
theorem dX9_asksProof_3 : decode cX9_asksProof 3 = .ok (.invokevirtual 105, 3) := by decide +kernel
theorem dX9_asksProof_6 : decode cX9_asksProof 6 = .ok (.ifCond .ne 7, 3) := by decide +kernel
theorem dX9_asksProof_9 : decode cX9_asksProof 9 = .ok (.iconst 1, 1) := by decide +kernel
theorem dX9_asksProof_10 : decode cX9_asksProof 10 = .ok (.goto 18, 3) := by decide +kernel
theorem dX9_asksProof_13 : decode cX9_asksProof 13 = .ok (.aload_n 0, 1) := by decide +kernel
theorem dX9_asksProof_14 : decode cX9_asksProof 14 = .ok (.getfield 28, 3) := by decide +kernel
theorem dX9_asksProof_17 : decode cX9_asksProof 17 = .ok (.iload_n 1, 1) := by decide +kernel
theorem dX9_asksProof_18 : decode cX9_asksProof 18 = .ok (.iaload, 1) := by decide +kernel
theorem dX9_asksProof_19 : decode cX9_asksProof 19 = .ok (.iconst (-1), 1) := by decide +kernel
theorem dX9_asksProof_20 : decode cX9_asksProof 20 = .ok (.if_icmp .ne 7, 3) := by decide +kernel
theorem dX9_asksProof_23 : decode cX9_asksProof 23 = .ok (.iconst 2, 1) := by decide +kernel
theorem dX9_asksProof_24 : decode cX9_asksProof 24 = .ok (.goto 4, 3) := by decide +kernel
theorem dX9_asksProof_27 : decode cX9_asksProof 27 = .ok (.iconst 0, 1) := by decide +kernel
theorem dX9_asksProof_28 : decode cX9_asksProof 28 = .ok (.putfield 78, 3) := by decide +kernel
theorem dX9_asksProof_31 : decode cX9_asksProof 31 = .ok (.aload_n 0, 1) := by decide +kernel
theorem dX9_asksProof_32 : decode cX9_asksProof 32 = .ok (.getfield 78, 3) := by decide +kernel
theorem dX9_asksProof_35 : decode cX9_asksProof 35 = .ok (.ifCond .ne 7, 3) := by decide +kernel
theorem dX9_asksProof_38 : decode cX9_asksProof 38 = .ok (.iconst 1, 1) := by decide +kernel
theorem dX9_asksProof_39 : decode cX9_asksProof 39 = .ok (.goto 4, 3) := by decide +kernel
theorem dX9_asksProof_42 : decode cX9_asksProof 42 = .ok (.iconst 0, 1) := by decide +kernel
theorem dX9_asksProof_43 : decode cX9_asksProof 43 = .ok (.ireturn, 1) := by decide +kernel
theorem dX9_signed_0 : decode cX9_signed 0 = .ok (.aload_n 0, 1) := by decide +kernel
theorem dX9_signed_1 : decode cX9_signed 1 = .ok (.iload_n 1, 1) := by decide +kernel
theorem dX9_signed_2 : decode cX9_signed 2 = .ok (.invokevirtual 135, 3) := by decide +kernel
theorem dX9_signed_5 : decode cX9_signed 5 = .ok (.ifCond .eq 12, 3) := by decide +kernel
theorem dX9_signed_8 : decode cX9_signed 8 = .ok (.aload_n 0, 1) := by decide +kernel
theorem dX9_signed_9 : decode cX9_signed 9 = .ok (.getfield 28, 3) := by decide +kernel
theorem dX9_signed_12 : decode cX9_signed 12 = .ok (.iload_n 1, 1) := by decide +kernel
theorem dX9_signed_13 : decode cX9_signed 13 = .ok (.iaload, 1) := by decide +kernel
theorem dX9_signed_14 : decode cX9_signed 14 = .ok (.goto 4, 3) := by decide +kernel
theorem dX9_signed_17 : decode cX9_signed 17 = .ok (.iconst (-1), 1) := by decide +kernel
theorem dX9_signed_18 : decode cX9_signed 18 = .ok (.ireturn, 1) := by decide +kernel
theorem dX9_sheets_0 : decode cX9_sheets 0 = .ok (.aload_n 0, 1) := by decide +kernel
theorem dX9_sheets_1 : decode cX9_sheets 1 = .ok (.iload_n 1, 1) := by decide +kernel
theorem dX9_sheets_2 : decode cX9_sheets 2 = .ok (.invokevirtual 135, 3) := by decide +kernel
theorem dX9_sheets_5 : decode cX9_sheets 5 = .ok (.ifCond .eq 11, 3) := by decide +kernel
theorem dX9_sheets_8 : decode cX9_sheets 8 = .ok (.aload_n 0, 1) := by decide +kernel
theorem dX9_sheets_9 : decode cX9_sheets 9 = .ok (.iload_n 1, 1) := by decide +kernel
theorem dX9_sheets_10 : decode cX9_sheets 10 = .ok (.invokevirtual 132, 3) := by decide +kernel
theorem dX9_sheets_13 : decode cX9_sheets 13 = .ok (.goto 4, 3) := by decide +kernel
theorem dX9_sheets_16 : decode cX9_sheets 16 = .ok (.iconst (-1), 1) := by decide +kernel
theorem dX9_sheets_17 : decode cX9_sheets 17 = .ok (.ireturn, 1) := by decide +kernel
theorem dX9_pageAt_0 : decode cX9_pageAt 0 = .ok (.iconst 4, 1) := by decide +kernel
theorem dX9_pageAt_1 : decode cX9_pageAt 1 = .ok (.aload_n 0, 1) := by decide +kernel
theorem dX9_pageAt_2 : decode cX9_pageAt 2 = .ok (.iload_n 1, 1) := by decide +kernel
theorem dX9_pageAt_3 : decode cX9_pageAt 3 = .ok (.invokevirtual 132, 3) := by decide +kernel
theorem dX9_pageAt_6 : decode cX9_pageAt 6 = .ok (.imul, 1) := by decide +kernel
theorem dX9_pageAt_7 : decode cX9_pageAt 7 = .ok (.istore 4, 2) := by decide +kernel
theorem dX9_pageAt_9 : decode cX9_pageAt 9 = .ok (.iload_n 3, 1) := by decide +kernel
theorem dX9_pageAt_10 : decode cX9_pageAt 10 = .ok (.ifCond .ne 14, 3) := by decide +kernel
theorem dX9_pageAt_13 : decode cX9_pageAt 13 = .ok (.iload 4, 2) := by decide +kernel
theorem dX9_pageAt_15 : decode cX9_pageAt 15 = .ok (.iconst 1, 1) := by decide +kernel
theorem dX9_pageAt_16 : decode cX9_pageAt 16 = .ok (.isub, 1) := by decide +kernel
theorem dX9_pageAt_17 : decode cX9_pageAt 17 = .ok (.iconst 2, 1) := by decide +kernel
theorem dX9_pageAt_18 : decode cX9_pageAt 18 = .ok (.iload_n 2, 1) := by decide +kernel
theorem dX9_pageAt_19 : decode cX9_pageAt 19 = .ok (.imul, 1) := by decide +kernel
theorem dX9_pageAt_20 : decode cX9_pageAt 20 = .ok (.isub, 1) := by decide +kernel
theorem dX9_pageAt_21 : decode cX9_pageAt 21 = .ok (.goto 35, 3) := by decide +kernel
theorem dX9_pageAt_24 : decode cX9_pageAt 24 = .ok (.iload_n 3, 1) := by decide +kernel
theorem dX9_pageAt_25 : decode cX9_pageAt 25 = .ok (.iconst 1, 1) := by decide +kernel
theorem dX9_pageAt_26 : decode cX9_pageAt 26 = .ok (.if_icmp .ne 9, 3) := by decide +kernel
theorem dX9_pageAt_29 : decode cX9_pageAt 29 = .ok (.iconst 2, 1) := by decide +kernel
theorem dX9_pageAt_30 : decode cX9_pageAt 30 = .ok (.iload_n 2, 1) := by decide +kernel
theorem dX9_pageAt_31 : decode cX9_pageAt 31 = .ok (.imul, 1) := by decide +kernel
theorem dX9_pageAt_32 : decode cX9_pageAt 32 = .ok (.goto 24, 3) := by decide +kernel
theorem dX9_pageAt_35 : decode cX9_pageAt 35 = .ok (.iload_n 3, 1) := by decide +kernel
theorem dX9_pageAt_36 : decode cX9_pageAt 36 = .ok (.iconst 2, 1) := by decide +kernel
theorem dX9_pageAt_37 : decode cX9_pageAt 37 = .ok (.if_icmp .ne 11, 3) := by decide +kernel
theorem dX9_pageAt_40 : decode cX9_pageAt 40 = .ok (.iconst 2, 1) := by decide +kernel
theorem dX9_pageAt_41 : decode cX9_pageAt 41 = .ok (.iload_n 2, 1) := by decide +kernel
theorem dX9_pageAt_42 : decode cX9_pageAt 42 = .ok (.imul, 1) := by decide +kernel
theorem dX9_pageAt_43 : decode cX9_pageAt 43 = .ok (.iconst 1, 1) := by decide +kernel
theorem dX9_pageAt_44 : decode cX9_pageAt 44 = .ok (.iadd, 1) := by decide +kernel
theorem dX9_pageAt_45 : decode cX9_pageAt 45 = .ok (.goto 11, 3) := by decide +kernel
theorem dX9_pageAt_48 : decode cX9_pageAt 48 = .ok (.iload 4, 2) := by decide +kernel
theorem dX9_pageAt_50 : decode cX9_pageAt 50 = .ok (.iconst 2, 1) := by decide +kernel
theorem dX9_pageAt_51 : decode cX9_pageAt 51 = .ok (.isub, 1) := by decide +kernel
theorem dX9_pageAt_52 : decode cX9_pageAt 52 = .ok (.iconst 2, 1) := by decide +kernel
theorem dX9_pageAt_53 : decode cX9_pageAt 53 = .ok (.iload_n 2, 1) := by decide +kernel
theorem dX9_pageAt_54 : decode cX9_pageAt 54 = .ok (.imul, 1) := by decide +kernel
theorem dX9_pageAt_55 : decode cX9_pageAt 55 = .ok (.isub, 1) := by decide +kernel
theorem dX9_pageAt_56 : decode cX9_pageAt 56 = .ok (.ireturn, 1) := by decide +kernel
theorem dX9_pageOn_0 : decode cX9_pageOn 0 = .ok (.aload_n 0, 1) := by decide +kernel
theorem dX9_pageOn_1 : decode cX9_pageOn 1 = .ok (.iload_n 1, 1) := by decide +kernel
theorem dX9_pageOn_2 : decode cX9_pageOn 2 = .ok (.invokevirtual 135, 3) := by decide +kernel
theorem dX9_pageOn_5 : decode cX9_pageOn 5 = .ok (.ifCond .ne 5, 3) := by decide +kernel
theorem dX9_pageOn_8 : decode cX9_pageOn 8 = .ok (.iconst (-1), 1) := by decide +kernel
theorem dX9_pageOn_9 : decode cX9_pageOn 9 = .ok (.ireturn, 1) := by decide +kernel
theorem dX9_pageOn_10 : decode cX9_pageOn 10 = .ok (.aload_n 0, 1) := by decide +kernel
theorem dX9_pageOn_11 : decode cX9_pageOn 11 = .ok (.iload_n 2, 1) := by decide +kernel
theorem dX9_pageOn_12 : decode cX9_pageOn 12 = .ok (.i2l, 1) := by decide +kernel
theorem dX9_pageOn_13 : decode cX9_pageOn 13 = .ok (.lconst 0, 1) := by decide +kernel
theorem dX9_pageOn_14 : decode cX9_pageOn 14 = .ok (.aload_n 0, 1) := by decide +kernel
theorem dX9_pageOn_15 : decode cX9_pageOn 15 = .ok (.iload_n 1, 1) := by decide +kernel
theorem dX9_pageOn_16 : decode cX9_pageOn 16 = .ok (.invokevirtual 132, 3) := by decide +kernel
theorem dX9_pageOn_19 : decode cX9_pageOn 19 = .ok (.iconst 1, 1) := by decide +kernel
theorem dX9_pageOn_20 : decode cX9_pageOn 20 = .ok (.isub, 1) := by decide +kernel
theorem dX9_pageOn_21 : decode cX9_pageOn 21 = .ok (.i2l, 1) := by decide +kernel
theorem dX9_pageOn_22 : decode cX9_pageOn 22 = .ok (.invokestatic 84, 3) := by decide +kernel
theorem dX9_pageOn_25 : decode cX9_pageOn 25 = .ok (.ifCond .eq 19, 3) := by decide +kernel
theorem dX9_pageOn_28 : decode cX9_pageOn 28 = .ok (.iload_n 3, 1) := by decide +kernel
theorem dX9_pageOn_29 : decode cX9_pageOn 29 = .ok (.i2l, 1) := by decide +kernel
theorem dX9_pageOn_30 : decode cX9_pageOn 30 = .ok (.lconst 0, 1) := by decide +kernel
theorem dX9_pageOn_31 : decode cX9_pageOn 31 = .ok (.ldc2_w 138, 3) := by decide +kernel
theorem dX9_pageOn_34 : decode cX9_pageOn 34 = .ok (.invokestatic 84, 3) := by decide +kernel
theorem dX9_pageOn_37 : decode cX9_pageOn 37 = .ok (.ifCond .eq 7, 3) := by decide +kernel
theorem dX9_pageOn_40 : decode cX9_pageOn 40 = .ok (.iconst 0, 1) := by decide +kernel
theorem dX9_pageOn_41 : decode cX9_pageOn 41 = .ok (.goto 4, 3) := by decide +kernel
theorem dX9_pageOn_44 : decode cX9_pageOn 44 = .ok (.iconst 3, 1) := by decide +kernel
theorem dX9_pageOn_45 : decode cX9_pageOn 45 = .ok (.putfield 78, 3) := by decide +kernel
theorem dX9_pageOn_48 : decode cX9_pageOn 48 = .ok (.aload_n 0, 1) := by decide +kernel
theorem dX9_pageOn_49 : decode cX9_pageOn 49 = .ok (.getfield 78, 3) := by decide +kernel
theorem dX9_pageOn_52 : decode cX9_pageOn 52 = .ok (.ifCond .ne 13, 3) := by decide +kernel
theorem dX9_pageOn_55 : decode cX9_pageOn 55 = .ok (.aload_n 0, 1) := by decide +kernel
theorem dX9_pageOn_56 : decode cX9_pageOn 56 = .ok (.iload_n 1, 1) := by decide +kernel
theorem dX9_pageOn_57 : decode cX9_pageOn 57 = .ok (.iload_n 2, 1) := by decide +kernel
theorem dX9_pageOn_58 : decode cX9_pageOn 58 = .ok (.iload_n 3, 1) := by decide +kernel
theorem dX9_pageOn_59 : decode cX9_pageOn 59 = .ok (.invokevirtual 140, 3) := by decide +kernel
theorem dX9_pageOn_62 : decode cX9_pageOn 62 = .ok (.goto 4, 3) := by decide +kernel
theorem dX9_pageOn_65 : decode cX9_pageOn 65 = .ok (.iconst (-1), 1) := by decide +kernel
theorem dX9_pageOn_66 : decode cX9_pageOn 66 = .ok (.ireturn, 1) := by decide +kernel
theorem dX9_codeOn_0 : decode cX9_codeOn 0 = .ok (.bipush 8, 2) := by decide +kernel
theorem dX9_codeOn_2 : decode cX9_codeOn 2 = .ok (.aload_n 0, 1) := by decide +kernel
theorem dX9_codeOn_3 : decode cX9_codeOn 3 = .ok (.iload_n 1, 1) := by decide +kernel
theorem dX9_codeOn_4 : decode cX9_codeOn 4 = .ok (.iload_n 2, 1) := by decide +kernel
theorem dX9_codeOn_5 : decode cX9_codeOn 5 = .ok (.iload_n 3, 1) := by decide +kernel
theorem dX9_codeOn_6 : decode cX9_codeOn 6 = .ok (.bipush 8, 2) := by decide +kernel
theorem dX9_codeOn_8 : decode cX9_codeOn 8 = .ok (.idiv, 1) := by decide +kernel
theorem dX9_codeOn_9 : decode cX9_codeOn 9 = .ok (.invokevirtual 140, 3) := by decide +kernel
theorem dX9_codeOn_12 : decode cX9_codeOn 12 = .ok (.imul, 1) := by decide +kernel
theorem dX9_codeOn_13 : decode cX9_codeOn 13 = .ok (.iload_n 3, 1) := by decide +kernel
theorem dX9_codeOn_14 : decode cX9_codeOn 14 = .ok (.bipush 8, 2) := by decide +kernel
theorem dX9_codeOn_16 : decode cX9_codeOn 16 = .ok (.irem, 1) := by decide +kernel
theorem dX9_codeOn_17 : decode cX9_codeOn 17 = .ok (.iadd, 1) := by decide +kernel
theorem dX9_codeOn_18 : decode cX9_codeOn 18 = .ok (.istore 4, 2) := by decide +kernel
theorem dX9_codeOn_20 : decode cX9_codeOn 20 = .ok (.iload 4, 2) := by decide +kernel
theorem dX9_codeOn_22 : decode cX9_codeOn 22 = .ok (.aload_n 0, 1) := by decide +kernel
theorem dX9_codeOn_23 : decode cX9_codeOn 23 = .ok (.getfield 25, 3) := by decide +kernel
theorem dX9_codeOn_26 : decode cX9_codeOn 26 = .ok (.iload_n 1, 1) := by decide +kernel
theorem dX9_codeOn_27 : decode cX9_codeOn 27 = .ok (.iaload, 1) := by decide +kernel
theorem dX9_codeOn_28 : decode cX9_codeOn 28 = .ok (.if_icmp .ge 18, 3) := by decide +kernel
theorem dX9_codeOn_31 : decode cX9_codeOn 31 = .ok (.aload_n 0, 1) := by decide +kernel
theorem dX9_codeOn_32 : decode cX9_codeOn 32 = .ok (.getfield 22, 3) := by decide +kernel
theorem dX9_codeOn_35 : decode cX9_codeOn 35 = .ok (.bipush 80, 2) := by decide +kernel
theorem dX9_codeOn_37 : decode cX9_codeOn 37 = .ok (.iload_n 1, 1) := by decide +kernel
theorem dX9_codeOn_38 : decode cX9_codeOn 38 = .ok (.imul, 1) := by decide +kernel
theorem dX9_codeOn_39 : decode cX9_codeOn 39 = .ok (.iload 4, 2) := by decide +kernel
theorem dX9_codeOn_41 : decode cX9_codeOn 41 = .ok (.iadd, 1) := by decide +kernel
theorem dX9_codeOn_42 : decode cX9_codeOn 42 = .ok (.iaload, 1) := by decide +kernel
theorem dX9_codeOn_43 : decode cX9_codeOn 43 = .ok (.goto 4, 3) := by decide +kernel
theorem dX9_codeOn_46 : decode cX9_codeOn 46 = .ok (.iconst (-1), 1) := by decide +kernel
theorem dX9_codeOn_47 : decode cX9_codeOn 47 = .ok (.ireturn, 1) := by decide +kernel
theorem dX9_shown_0 : decode cX9_shown 0 = .ok (.aload_n 0, 1) := by decide +kernel
theorem dX9_shown_1 : decode cX9_shown 1 = .ok (.iload_n 1, 1) := by decide +kernel
theorem dX9_shown_2 : decode cX9_shown 2 = .ok (.invokevirtual 135, 3) := by decide +kernel
theorem dX9_shown_5 : decode cX9_shown 5 = .ok (.ifCond .ne 5, 3) := by decide +kernel
theorem dX9_shown_8 : decode cX9_shown 8 = .ok (.iconst (-1), 1) := by decide +kernel
theorem dX9_shown_9 : decode cX9_shown 9 = .ok (.ireturn, 1) := by decide +kernel
theorem dX9_shown_10 : decode cX9_shown 10 = .ok (.aload_n 0, 1) := by decide +kernel
theorem dX9_shown_11 : decode cX9_shown 11 = .ok (.iload_n 2, 1) := by decide +kernel
theorem dX9_shown_12 : decode cX9_shown 12 = .ok (.i2l, 1) := by decide +kernel
theorem dX9_shown_13 : decode cX9_shown 13 = .ok (.lconst 0, 1) := by decide +kernel
theorem dX9_shown_14 : decode cX9_shown 14 = .ok (.aload_n 0, 1) := by decide +kernel
theorem dX9_shown_15 : decode cX9_shown 15 = .ok (.iload_n 1, 1) := by decide +kernel
theorem dX9_shown_16 : decode cX9_shown 16 = .ok (.invokevirtual 132, 3) := by decide +kernel
theorem dX9_shown_19 : decode cX9_shown 19 = .ok (.iconst 1, 1) := by decide +kernel
theorem dX9_shown_20 : decode cX9_shown 20 = .ok (.isub, 1) := by decide +kernel
theorem dX9_shown_21 : decode cX9_shown 21 = .ok (.i2l, 1) := by decide +kernel
theorem dX9_shown_22 : decode cX9_shown 22 = .ok (.invokestatic 84, 3) := by decide +kernel
theorem dX9_shown_25 : decode cX9_shown 25 = .ok (.ifCond .eq 19, 3) := by decide +kernel
theorem dX9_shown_28 : decode cX9_shown 28 = .ok (.iload_n 3, 1) := by decide +kernel
theorem dX9_shown_29 : decode cX9_shown 29 = .ok (.i2l, 1) := by decide +kernel
theorem dX9_shown_30 : decode cX9_shown 30 = .ok (.lconst 0, 1) := by decide +kernel
theorem dX9_shown_31 : decode cX9_shown 31 = .ok (.ldc2_w 144, 3) := by decide +kernel
theorem dX9_shown_34 : decode cX9_shown 34 = .ok (.invokestatic 84, 3) := by decide +kernel
theorem dX9_shown_37 : decode cX9_shown 37 = .ok (.ifCond .eq 7, 3) := by decide +kernel
theorem dX9_shown_40 : decode cX9_shown 40 = .ok (.iconst 0, 1) := by decide +kernel
theorem dX9_shown_41 : decode cX9_shown 41 = .ok (.goto 4, 3) := by decide +kernel
theorem dX9_shown_44 : decode cX9_shown 44 = .ok (.iconst 3, 1) := by decide +kernel
theorem dX9_shown_45 : decode cX9_shown 45 = .ok (.putfield 78, 3) := by decide +kernel
theorem dX9_shown_48 : decode cX9_shown 48 = .ok (.aload_n 0, 1) := by decide +kernel
theorem dX9_shown_49 : decode cX9_shown 49 = .ok (.getfield 78, 3) := by decide +kernel
theorem dX9_shown_52 : decode cX9_shown 52 = .ok (.ifCond .ne 13, 3) := by decide +kernel
theorem dX9_shown_55 : decode cX9_shown 55 = .ok (.aload_n 0, 1) := by decide +kernel
theorem dX9_shown_56 : decode cX9_shown 56 = .ok (.iload_n 1, 1) := by decide +kernel
theorem dX9_shown_57 : decode cX9_shown 57 = .ok (.iload_n 2, 1) := by decide +kernel
theorem dX9_shown_58 : decode cX9_shown 58 = .ok (.iload_n 3, 1) := by decide +kernel
theorem dX9_shown_59 : decode cX9_shown 59 = .ok (.invokevirtual 146, 3) := by decide +kernel
theorem dX9_shown_62 : decode cX9_shown 62 = .ok (.goto 4, 3) := by decide +kernel
theorem dX9_shown_65 : decode cX9_shown 65 = .ok (.iconst (-1), 1) := by decide +kernel
theorem dX9_shown_66 : decode cX9_shown 66 = .ok (.ireturn, 1) := by decide +kernel
theorem dX9_shownByLog_0 : decode cX9_shownByLog 0 = .ok (.aload_n 0, 1) := by decide +kernel
theorem dX9_shownByLog_1 : decode cX9_shownByLog 1 = .ok (.iload_n 1, 1) := by decide +kernel
theorem dX9_shownByLog_2 : decode cX9_shownByLog 2 = .ok (.iload_n 2, 1) := by decide +kernel
theorem dX9_shownByLog_3 : decode cX9_shownByLog 3 = .ok (.iload_n 3, 1) := by decide +kernel
theorem dX9_shownByLog_4 : decode cX9_shownByLog 4 = .ok (.invokevirtual 149, 3) := by decide +kernel
theorem dX9_shownByLog_7 : decode cX9_shownByLog 7 = .ok (.ireturn, 1) := by decide +kernel
theorem dX9_supply_0 : decode cX9_supply 0 = .ok (.iload_n 1, 1) := by decide +kernel
theorem dX9_supply_1 : decode cX9_supply 1 = .ok (.i2l, 1) := by decide +kernel
theorem dX9_supply_2 : decode cX9_supply 2 = .ok (.lconst 0, 1) := by decide +kernel
theorem dX9_supply_3 : decode cX9_supply 3 = .ok (.ldc2_w 152, 3) := by decide +kernel
theorem dX9_supply_6 : decode cX9_supply 6 = .ok (.invokestatic 84, 3) := by decide +kernel
theorem dX9_supply_9 : decode cX9_supply 9 = .ok (.ifCond .eq 19, 3) := by decide +kernel
theorem dX9_supply_12 : decode cX9_supply 12 = .ok (.iload_n 2, 1) := by decide +kernel
theorem dX9_supply_13 : decode cX9_supply 13 = .ok (.i2l, 1) := by decide +kernel
theorem dX9_supply_14 : decode cX9_supply 14 = .ok (.lconst 0, 1) := by decide +kernel
theorem dX9_supply_15 : decode cX9_supply 15 = .ok (.ldc2_w 154, 3) := by decide +kernel
theorem dX9_supply_18 : decode cX9_supply 18 = .ok (.invokestatic 84, 3) := by decide +kernel
theorem dX9_supply_21 : decode cX9_supply 21 = .ok (.ifCond .eq 7, 3) := by decide +kernel
theorem dX9_supply_24 : decode cX9_supply 24 = .ok (.iconst 1, 1) := by decide +kernel
theorem dX9_supply_25 : decode cX9_supply 25 = .ok (.goto 4, 3) := by decide +kernel
theorem dX9_supply_28 : decode cX9_supply 28 = .ok (.iconst 0, 1) := by decide +kernel
theorem dX9_supply_29 : decode cX9_supply 29 = .ok (.istore_n 3, 1) := by decide +kernel
theorem dX9_supply_30 : decode cX9_supply 30 = .ok (.aload_n 0, 1) := by decide +kernel
theorem dX9_supply_31 : decode cX9_supply 31 = .ok (.getfield 156, 3) := by decide +kernel
theorem dX9_supply_34 : decode cX9_supply 34 = .ok (.iload_n 1, 1) := by decide +kernel
theorem dX9_supply_35 : decode cX9_supply 35 = .ok (.iadd, 1) := by decide +kernel
theorem dX9_supply_36 : decode cX9_supply 36 = .ok (.ldc 159, 2) := by decide +kernel
theorem dX9_supply_38 : decode cX9_supply 38 = .ok (.if_icmp .gt 15, 3) := by decide +kernel
theorem dX9_supply_41 : decode cX9_supply 41 = .ok (.aload_n 0, 1) := by decide +kernel
theorem dX9_supply_42 : decode cX9_supply 42 = .ok (.getfield 160, 3) := by decide +kernel
theorem dX9_supply_45 : decode cX9_supply 45 = .ok (.iload_n 2, 1) := by decide +kernel
theorem dX9_supply_46 : decode cX9_supply 46 = .ok (.iadd, 1) := by decide +kernel
theorem dX9_supply_47 : decode cX9_supply 47 = .ok (.sipush 999, 3) := by decide +kernel
theorem dX9_supply_50 : decode cX9_supply 50 = .ok (.if_icmp .le 7, 3) := by decide +kernel
theorem dX9_supply_53 : decode cX9_supply 53 = .ok (.iconst 1, 1) := by decide +kernel
theorem dX9_supply_54 : decode cX9_supply 54 = .ok (.goto 4, 3) := by decide +kernel
theorem dX9_supply_57 : decode cX9_supply 57 = .ok (.iconst 0, 1) := by decide +kernel
theorem dX9_supply_58 : decode cX9_supply 58 = .ok (.istore 4, 2) := by decide +kernel
theorem dX9_supply_60 : decode cX9_supply 60 = .ok (.aload_n 0, 1) := by decide +kernel
theorem dX9_supply_61 : decode cX9_supply 61 = .ok (.iload_n 3, 1) := by decide +kernel
theorem dX9_supply_62 : decode cX9_supply 62 = .ok (.ifCond .ne 7, 3) := by decide +kernel
theorem dX9_supply_65 : decode cX9_supply 65 = .ok (.iconst 1, 1) := by decide +kernel
theorem dX9_supply_66 : decode cX9_supply 66 = .ok (.goto 13, 3) := by decide +kernel
theorem dX9_supply_69 : decode cX9_supply 69 = .ok (.iload 4, 2) := by decide +kernel
theorem dX9_supply_71 : decode cX9_supply 71 = .ok (.ifCond .eq 7, 3) := by decide +kernel
theorem dX9_supply_74 : decode cX9_supply 74 = .ok (.iconst 2, 1) := by decide +kernel
theorem dX9_supply_75 : decode cX9_supply 75 = .ok (.goto 4, 3) := by decide +kernel
theorem dX9_supply_78 : decode cX9_supply 78 = .ok (.iconst 0, 1) := by decide +kernel
theorem dX9_supply_79 : decode cX9_supply 79 = .ok (.putfield 78, 3) := by decide +kernel
theorem dX9_supply_82 : decode cX9_supply 82 = .ok (.aload_n 0, 1) := by decide +kernel
theorem dX9_supply_83 : decode cX9_supply 83 = .ok (.getfield 78, 3) := by decide +kernel
theorem dX9_supply_86 : decode cX9_supply 86 = .ok (.ifCond .le 5, 3) := by decide +kernel
theorem dX9_supply_89 : decode cX9_supply 89 = .ok (.iconst (-1), 1) := by decide +kernel
theorem dX9_supply_90 : decode cX9_supply 90 = .ok (.ireturn, 1) := by decide +kernel
theorem dX9_supply_91 : decode cX9_supply 91 = .ok (.aload_n 0, 1) := by decide +kernel
theorem dX9_supply_92 : decode cX9_supply 92 = .ok (.dup, 1) := by decide +kernel
theorem dX9_supply_93 : decode cX9_supply 93 = .ok (.getfield 156, 3) := by decide +kernel
theorem dX9_supply_96 : decode cX9_supply 96 = .ok (.iload_n 1, 1) := by decide +kernel
theorem dX9_supply_97 : decode cX9_supply 97 = .ok (.iadd, 1) := by decide +kernel
theorem dX9_supply_98 : decode cX9_supply 98 = .ok (.putfield 156, 3) := by decide +kernel
theorem dX9_supply_101 : decode cX9_supply 101 = .ok (.aload_n 0, 1) := by decide +kernel
theorem dX9_supply_102 : decode cX9_supply 102 = .ok (.dup, 1) := by decide +kernel
theorem dX9_supply_103 : decode cX9_supply 103 = .ok (.getfield 160, 3) := by decide +kernel
theorem dX9_supply_106 : decode cX9_supply 106 = .ok (.iload_n 2, 1) := by decide +kernel
theorem dX9_supply_107 : decode cX9_supply 107 = .ok (.iadd, 1) := by decide +kernel
theorem dX9_supply_108 : decode cX9_supply 108 = .ok (.putfield 160, 3) := by decide +kernel
theorem dX9_supply_111 : decode cX9_supply 111 = .ok (.aload_n 0, 1) := by decide +kernel
theorem dX9_supply_112 : decode cX9_supply 112 = .ok (.getfield 156, 3) := by decide +kernel
theorem dX9_supply_115 : decode cX9_supply 115 = .ok (.ireturn, 1) := by decide +kernel
theorem dX9_paper_0 : decode cX9_paper 0 = .ok (.aload_n 0, 1) := by decide +kernel
theorem dX9_paper_1 : decode cX9_paper 1 = .ok (.iconst 0, 1) := by decide +kernel
theorem dX9_paper_2 : decode cX9_paper 2 = .ok (.putfield 78, 3) := by decide +kernel
theorem dX9_paper_5 : decode cX9_paper 5 = .ok (.aload_n 0, 1) := by decide +kernel
theorem dX9_paper_6 : decode cX9_paper 6 = .ok (.getfield 156, 3) := by decide +kernel
theorem dX9_paper_9 : decode cX9_paper 9 = .ok (.ireturn, 1) := by decide +kernel
theorem dX9_plates_0 : decode cX9_plates 0 = .ok (.aload_n 0, 1) := by decide +kernel
theorem dX9_plates_1 : decode cX9_plates 1 = .ok (.iconst 0, 1) := by decide +kernel
theorem dX9_plates_2 : decode cX9_plates 2 = .ok (.putfield 78, 3) := by decide +kernel
theorem dX9_plates_5 : decode cX9_plates 5 = .ok (.aload_n 0, 1) := by decide +kernel
theorem dX9_plates_6 : decode cX9_plates 6 = .ok (.getfield 160, 3) := by decide +kernel
theorem dX9_plates_9 : decode cX9_plates 9 = .ok (.ireturn, 1) := by decide +kernel
theorem dX9_order_0 : decode cX9_order 0 = .ok (.iload_n 2, 1) := by decide +kernel
theorem dX9_order_1 : decode cX9_order 1 = .ok (.i2l, 1) := by decide +kernel
theorem dX9_order_2 : decode cX9_order 2 = .ok (.lconst 1, 1) := by decide +kernel
theorem dX9_order_3 : decode cX9_order 3 = .ok (.ldc2_w 163, 3) := by decide +kernel
theorem dX9_order_6 : decode cX9_order 6 = .ok (.invokestatic 84, 3) := by decide +kernel
theorem dX9_order_9 : decode cX9_order 9 = .ok (.ifCond .eq 19, 3) := by decide +kernel
theorem dX9_order_12 : decode cX9_order 12 = .ok (.iload_n 3, 1) := by decide +kernel
theorem dX9_order_13 : decode cX9_order 13 = .ok (.i2l, 1) := by decide +kernel
theorem dX9_order_14 : decode cX9_order 14 = .ok (.lconst 0, 1) := by decide +kernel
theorem dX9_order_15 : decode cX9_order 15 = .ok (.ldc2_w 120, 3) := by decide +kernel
theorem dX9_order_18 : decode cX9_order 18 = .ok (.invokestatic 84, 3) := by decide +kernel
theorem dX9_order_21 : decode cX9_order 21 = .ok (.ifCond .eq 7, 3) := by decide +kernel
theorem dX9_order_24 : decode cX9_order 24 = .ok (.iconst 1, 1) := by decide +kernel
theorem dX9_order_25 : decode cX9_order 25 = .ok (.goto 4, 3) := by decide +kernel
theorem dX9_order_28 : decode cX9_order 28 = .ok (.iconst 0, 1) := by decide +kernel
theorem dX9_order_29 : decode cX9_order 29 = .ok (.istore 4, 2) := by decide +kernel
theorem dX9_order_31 : decode cX9_order 31 = .ok (.aload_n 0, 1) := by decide +kernel
theorem dX9_order_32 : decode cX9_order 32 = .ok (.iload_n 1, 1) := by decide +kernel
theorem dX9_order_33 : decode cX9_order 33 = .ok (.invokevirtual 105, 3) := by decide +kernel
theorem dX9_order_36 : decode cX9_order 36 = .ok (.ifCond .eq 8, 3) := by decide +kernel
theorem dX9_order_39 : decode cX9_order 39 = .ok (.iload 4, 2) := by decide +kernel
theorem dX9_order_41 : decode cX9_order 41 = .ok (.ifCond .ne 22, 3) := by decide +kernel
theorem dX9_order_44 : decode cX9_order 44 = .ok (.aload_n 0, 1) := by decide +kernel
theorem dX9_order_45 : decode cX9_order 45 = .ok (.aload_n 0, 1) := by decide +kernel
theorem dX9_order_46 : decode cX9_order 46 = .ok (.iload_n 1, 1) := by decide +kernel
theorem dX9_order_47 : decode cX9_order 47 = .ok (.invokevirtual 105, 3) := by decide +kernel
theorem dX9_order_50 : decode cX9_order 50 = .ok (.ifCond .ne 7, 3) := by decide +kernel
theorem dX9_order_53 : decode cX9_order 53 = .ok (.iconst 1, 1) := by decide +kernel
theorem dX9_order_54 : decode cX9_order 54 = .ok (.goto 4, 3) := by decide +kernel
theorem dX9_order_57 : decode cX9_order 57 = .ok (.iconst 2, 1) := by decide +kernel
theorem dX9_order_58 : decode cX9_order 58 = .ok (.putfield 78, 3) := by decide +kernel
theorem dX9_order_61 : decode cX9_order 61 = .ok (.iconst (-1), 1) := by decide +kernel
theorem dX9_order_62 : decode cX9_order 62 = .ok (.ireturn, 1) := by decide +kernel
theorem dX9_order_63 : decode cX9_order 63 = .ok (.aload_n 0, 1) := by decide +kernel
theorem dX9_order_64 : decode cX9_order 64 = .ok (.getfield 28, 3) := by decide +kernel
theorem dX9_order_67 : decode cX9_order 67 = .ok (.iload_n 1, 1) := by decide +kernel
theorem dX9_order_68 : decode cX9_order 68 = .ok (.iaload, 1) := by decide +kernel
theorem dX9_order_69 : decode cX9_order 69 = .ok (.iconst (-1), 1) := by decide +kernel
theorem dX9_order_70 : decode cX9_order 70 = .ok (.if_icmp .eq 12, 3) := by decide +kernel
theorem dX9_order_73 : decode cX9_order 73 = .ok (.aload_n 0, 1) := by decide +kernel
theorem dX9_order_74 : decode cX9_order 74 = .ok (.getfield 165, 3) := by decide +kernel
theorem dX9_order_77 : decode cX9_order 77 = .ok (.bipush 6, 2) := by decide +kernel
theorem dX9_order_79 : decode cX9_order 79 = .ok (.if_icmp .ne 7, 3) := by decide +kernel
theorem dX9_order_82 : decode cX9_order 82 = .ok (.iconst 1, 1) := by decide +kernel
theorem dX9_order_83 : decode cX9_order 83 = .ok (.goto 4, 3) := by decide +kernel
theorem dX9_order_86 : decode cX9_order 86 = .ok (.iconst 0, 1) := by decide +kernel
theorem dX9_order_87 : decode cX9_order 87 = .ok (.istore 5, 2) := by decide +kernel
theorem dX9_order_89 : decode cX9_order 89 = .ok (.aload_n 0, 1) := by decide +kernel
theorem dX9_order_90 : decode cX9_order 90 = .ok (.iload 5, 2) := by decide +kernel
theorem dX9_order_92 : decode cX9_order 92 = .ok (.ifCond .eq 7, 3) := by decide +kernel
theorem dX9_order_95 : decode cX9_order 95 = .ok (.iconst 3, 1) := by decide +kernel
theorem dX9_order_96 : decode cX9_order 96 = .ok (.goto 22, 3) := by decide +kernel
theorem dX9_order_99 : decode cX9_order 99 = .ok (.iload_n 2, 1) := by decide +kernel
theorem dX9_order_100 : decode cX9_order 100 = .ok (.aload_n 0, 1) := by decide +kernel
theorem dX9_order_101 : decode cX9_order 101 = .ok (.iload_n 1, 1) := by decide +kernel
theorem dX9_order_102 : decode cX9_order 102 = .ok (.invokevirtual 132, 3) := by decide +kernel
theorem dX9_order_105 : decode cX9_order 105 = .ok (.imul, 1) := by decide +kernel
theorem dX9_order_106 : decode cX9_order 106 = .ok (.aload_n 0, 1) := by decide +kernel
theorem dX9_order_107 : decode cX9_order 107 = .ok (.invokevirtual 168, 3) := by decide +kernel
theorem dX9_order_110 : decode cX9_order 110 = .ok (.if_icmp .le 7, 3) := by decide +kernel
theorem dX9_order_113 : decode cX9_order 113 = .ok (.iconst 4, 1) := by decide +kernel
theorem dX9_order_114 : decode cX9_order 114 = .ok (.goto 4, 3) := by decide +kernel
theorem dX9_order_117 : decode cX9_order 117 = .ok (.iconst 0, 1) := by decide +kernel
theorem dX9_order_118 : decode cX9_order 118 = .ok (.putfield 78, 3) := by decide +kernel
theorem dX9_order_121 : decode cX9_order 121 = .ok (.aload_n 0, 1) := by decide +kernel
theorem dX9_order_122 : decode cX9_order 122 = .ok (.getfield 78, 3) := by decide +kernel
theorem dX9_order_125 : decode cX9_order 125 = .ok (.ifCond .le 5, 3) := by decide +kernel
theorem dX9_order_128 : decode cX9_order 128 = .ok (.iconst (-1), 1) := by decide +kernel
theorem dX9_order_129 : decode cX9_order 129 = .ok (.ireturn, 1) := by decide +kernel
theorem dX9_order_130 : decode cX9_order 130 = .ok (.aload_n 0, 1) := by decide +kernel
theorem dX9_order_131 : decode cX9_order 131 = .ok (.getfield 44, 3) := by decide +kernel
theorem dX9_order_134 : decode cX9_order 134 = .ok (.aload_n 0, 1) := by decide +kernel
theorem dX9_order_135 : decode cX9_order 135 = .ok (.getfield 165, 3) := by decide +kernel
theorem dX9_order_138 : decode cX9_order 138 = .ok (.iload_n 1, 1) := by decide +kernel
theorem dX9_order_139 : decode cX9_order 139 = .ok (.iastore, 1) := by decide +kernel
theorem dX9_order_140 : decode cX9_order 140 = .ok (.aload_n 0, 1) := by decide +kernel
theorem dX9_order_141 : decode cX9_order 141 = .ok (.getfield 47, 3) := by decide +kernel
theorem dX9_order_144 : decode cX9_order 144 = .ok (.aload_n 0, 1) := by decide +kernel
theorem dX9_order_145 : decode cX9_order 145 = .ok (.getfield 165, 3) := by decide +kernel
theorem dX9_order_148 : decode cX9_order 148 = .ok (.iload_n 2, 1) := by decide +kernel
theorem dX9_order_149 : decode cX9_order 149 = .ok (.iastore, 1) := by decide +kernel
theorem dX9_order_150 : decode cX9_order 150 = .ok (.aload_n 0, 1) := by decide +kernel
theorem dX9_order_151 : decode cX9_order 151 = .ok (.getfield 50, 3) := by decide +kernel
theorem dX9_order_154 : decode cX9_order 154 = .ok (.aload_n 0, 1) := by decide +kernel
theorem dX9_order_155 : decode cX9_order 155 = .ok (.getfield 165, 3) := by decide +kernel
theorem dX9_order_158 : decode cX9_order 158 = .ok (.iload_n 3, 1) := by decide +kernel
theorem dX9_order_159 : decode cX9_order 159 = .ok (.iastore, 1) := by decide +kernel
theorem dX9_order_160 : decode cX9_order 160 = .ok (.iconst 0, 1) := by decide +kernel
theorem dX9_order_161 : decode cX9_order 161 = .ok (.istore 6, 2) := by decide +kernel
theorem dX9_order_163 : decode cX9_order 163 = .ok (.iload 6, 2) := by decide +kernel
theorem dX9_order_165 : decode cX9_order 165 = .ok (.iconst 3, 1) := by decide +kernel
theorem dX9_order_166 : decode cX9_order 166 = .ok (.if_icmp .ge 24, 3) := by decide +kernel
theorem dX9_order_169 : decode cX9_order 169 = .ok (.aload_n 0, 1) := by decide +kernel
theorem dX9_order_170 : decode cX9_order 170 = .ok (.getfield 62, 3) := by decide +kernel
theorem dX9_order_173 : decode cX9_order 173 = .ok (.iconst 3, 1) := by decide +kernel
theorem dX9_order_174 : decode cX9_order 174 = .ok (.aload_n 0, 1) := by decide +kernel
theorem dX9_order_175 : decode cX9_order 175 = .ok (.getfield 165, 3) := by decide +kernel
theorem dX9_order_178 : decode cX9_order 178 = .ok (.imul, 1) := by decide +kernel
theorem dX9_order_179 : decode cX9_order 179 = .ok (.iload 6, 2) := by decide +kernel
theorem dX9_order_181 : decode cX9_order 181 = .ok (.iadd, 1) := by decide +kernel
theorem dX9_order_182 : decode cX9_order 182 = .ok (.iconst (-1), 1) := by decide +kernel
theorem dX9_order_183 : decode cX9_order 183 = .ok (.iastore, 1) := by decide +kernel
theorem dX9_order_184 : decode cX9_order 184 = .ok (.iinc 6 1, 3) := by decide +kernel
theorem dX9_order_187 : decode cX9_order 187 = .ok (.goto (-24), 3) := by decide +kernel
theorem dX9_order_190 : decode cX9_order 190 = .ok (.aload_n 0, 1) := by decide +kernel
theorem dX9_order_191 : decode cX9_order 191 = .ok (.dup, 1) := by decide +kernel
theorem dX9_order_192 : decode cX9_order 192 = .ok (.getfield 165, 3) := by decide +kernel
theorem dX9_order_195 : decode cX9_order 195 = .ok (.iconst 1, 1) := by decide +kernel
theorem dX9_order_196 : decode cX9_order 196 = .ok (.iadd, 1) := by decide +kernel
theorem dX9_order_197 : decode cX9_order 197 = .ok (.putfield 165, 3) := by decide +kernel
theorem dX9_order_200 : decode cX9_order 200 = .ok (.aload_n 0, 1) := by decide +kernel
theorem dX9_order_201 : decode cX9_order 201 = .ok (.getfield 165, 3) := by decide +kernel
theorem dX9_order_204 : decode cX9_order 204 = .ok (.iconst 1, 1) := by decide +kernel
theorem dX9_order_205 : decode cX9_order 205 = .ok (.isub, 1) := by decide +kernel
theorem dX9_order_206 : decode cX9_order 206 = .ok (.ireturn, 1) := by decide +kernel
theorem dX9_isOrder_0 : decode cX9_isOrder 0 = .ok (.iload_n 1, 1) := by decide +kernel
theorem dX9_isOrder_1 : decode cX9_isOrder 1 = .ok (.i2l, 1) := by decide +kernel
theorem dX9_isOrder_2 : decode cX9_isOrder 2 = .ok (.lconst 0, 1) := by decide +kernel
theorem dX9_isOrder_3 : decode cX9_isOrder 3 = .ok (.aload_n 0, 1) := by decide +kernel
theorem dX9_isOrder_4 : decode cX9_isOrder 4 = .ok (.getfield 165, 3) := by decide +kernel
theorem dX9_isOrder_7 : decode cX9_isOrder 7 = .ok (.iconst 1, 1) := by decide +kernel
theorem dX9_isOrder_8 : decode cX9_isOrder 8 = .ok (.isub, 1) := by decide +kernel
theorem dX9_isOrder_9 : decode cX9_isOrder 9 = .ok (.i2l, 1) := by decide +kernel
theorem dX9_isOrder_10 : decode cX9_isOrder 10 = .ok (.invokestatic 84, 3) := by decide +kernel
theorem dX9_isOrder_13 : decode cX9_isOrder 13 = .ok (.ireturn, 1) := by decide +kernel
theorem dX9_sheetsIn_0 : decode cX9_sheetsIn 0 = .ok (.aload_n 0, 1) := by decide +kernel
theorem dX9_sheetsIn_1 : decode cX9_sheetsIn 1 = .ok (.aload_n 0, 1) := by decide +kernel
theorem dX9_sheetsIn_2 : decode cX9_sheetsIn 2 = .ok (.getfield 44, 3) := by decide +kernel
theorem dX9_sheetsIn_5 : decode cX9_sheetsIn 5 = .ok (.iload_n 1, 1) := by decide +kernel
theorem dX9_sheetsIn_6 : decode cX9_sheetsIn 6 = .ok (.iaload, 1) := by decide +kernel
theorem dX9_sheetsIn_7 : decode cX9_sheetsIn 7 = .ok (.invokevirtual 132, 3) := by decide +kernel
theorem dX9_sheetsIn_10 : decode cX9_sheetsIn 10 = .ok (.ireturn, 1) := by decide +kernel
theorem dX9_stateNow_0 : decode cX9_stateNow 0 = .ok (.aload_n 0, 1) := by decide +kernel
theorem dX9_stateNow_1 : decode cX9_stateNow 1 = .ok (.getfield 71, 3) := by decide +kernel
theorem dX9_stateNow_4 : decode cX9_stateNow 4 = .ok (.iload_n 1, 1) := by decide +kernel
theorem dX9_stateNow_5 : decode cX9_stateNow 5 = .ok (.if_icmp .ne 14, 3) := by decide +kernel
theorem dX9_stateNow_8 : decode cX9_stateNow 8 = .ok (.aload_n 0, 1) := by decide +kernel
theorem dX9_stateNow_9 : decode cX9_stateNow 9 = .ok (.getfield 172, 3) := by decide +kernel
theorem dX9_stateNow_12 : decode cX9_stateNow 12 = .ok (.iload_n 2, 1) := by decide +kernel
theorem dX9_stateNow_13 : decode cX9_stateNow 13 = .ok (.if_icmp .ne 6, 3) := by decide +kernel
theorem dX9_stateNow_16 : decode cX9_stateNow 16 = .ok (.bipush 111, 2) := by decide +kernel
theorem dX9_stateNow_18 : decode cX9_stateNow 18 = .ok (.ireturn, 1) := by decide +kernel
theorem dX9_stateNow_19 : decode cX9_stateNow 19 = .ok (.aload_n 0, 1) := by decide +kernel
theorem dX9_stateNow_20 : decode cX9_stateNow 20 = .ok (.getfield 59, 3) := by decide +kernel
theorem dX9_stateNow_23 : decode cX9_stateNow 23 = .ok (.iconst 3, 1) := by decide +kernel
theorem dX9_stateNow_24 : decode cX9_stateNow 24 = .ok (.iload_n 1, 1) := by decide +kernel
theorem dX9_stateNow_25 : decode cX9_stateNow 25 = .ok (.imul, 1) := by decide +kernel
theorem dX9_stateNow_26 : decode cX9_stateNow 26 = .ok (.iload_n 2, 1) := by decide +kernel
theorem dX9_stateNow_27 : decode cX9_stateNow 27 = .ok (.iadd, 1) := by decide +kernel
theorem dX9_stateNow_28 : decode cX9_stateNow 28 = .ok (.iaload, 1) := by decide +kernel
theorem dX9_stateNow_29 : decode cX9_stateNow 29 = .ok (.ifCond .ne 6, 3) := by decide +kernel
theorem dX9_stateNow_32 : decode cX9_stateNow 32 = .ok (.bipush 119, 2) := by decide +kernel
theorem dX9_stateNow_34 : decode cX9_stateNow 34 = .ok (.ireturn, 1) := by decide +kernel
theorem dX9_stateNow_35 : decode cX9_stateNow 35 = .ok (.iconst 1, 1) := by decide +kernel
theorem dX9_stateNow_36 : decode cX9_stateNow 36 = .ok (.istore_n 3, 1) := by decide +kernel
theorem dX9_stateNow_37 : decode cX9_stateNow 37 = .ok (.iconst 0, 1) := by decide +kernel
theorem dX9_stateNow_38 : decode cX9_stateNow 38 = .ok (.istore 4, 2) := by decide +kernel
theorem dX9_stateNow_40 : decode cX9_stateNow 40 = .ok (.iload 4, 2) := by decide +kernel
theorem dX9_stateNow_42 : decode cX9_stateNow 42 = .ok (.bipush 32, 2) := by decide +kernel
theorem dX9_stateNow_44 : decode cX9_stateNow 44 = .ok (.if_icmp .ge 51, 3) := by decide +kernel
theorem dX9_stateNow_47 : decode cX9_stateNow 47 = .ok (.iload_n 3, 1) := by decide +kernel
theorem dX9_stateNow_48 : decode cX9_stateNow 48 = .ok (.ifCond .eq 39, 3) := by decide +kernel
theorem dX9_stateNow_51 : decode cX9_stateNow 51 = .ok (.aload_n 0, 1) := by decide +kernel
theorem dX9_stateNow_52 : decode cX9_stateNow 52 = .ok (.getfield 65, 3) := by decide +kernel
theorem dX9_stateNow_55 : decode cX9_stateNow 55 = .ok (.bipush 32, 2) := by decide +kernel
theorem dX9_stateNow_57 : decode cX9_stateNow 57 = .ok (.iconst 3, 1) := by decide +kernel
theorem dX9_stateNow_58 : decode cX9_stateNow 58 = .ok (.iload_n 1, 1) := by decide +kernel
theorem dX9_stateNow_59 : decode cX9_stateNow 59 = .ok (.imul, 1) := by decide +kernel
theorem dX9_stateNow_60 : decode cX9_stateNow 60 = .ok (.iload_n 2, 1) := by decide +kernel
theorem dX9_stateNow_61 : decode cX9_stateNow 61 = .ok (.iadd, 1) := by decide +kernel
theorem dX9_stateNow_62 : decode cX9_stateNow 62 = .ok (.imul, 1) := by decide +kernel
theorem dX9_stateNow_63 : decode cX9_stateNow 63 = .ok (.iload 4, 2) := by decide +kernel
theorem dX9_stateNow_65 : decode cX9_stateNow 65 = .ok (.iadd, 1) := by decide +kernel
theorem dX9_stateNow_66 : decode cX9_stateNow 66 = .ok (.iaload, 1) := by decide +kernel
theorem dX9_stateNow_67 : decode cX9_stateNow 67 = .ok (.aload_n 0, 1) := by decide +kernel
theorem dX9_stateNow_68 : decode cX9_stateNow 68 = .ok (.aload_n 0, 1) := by decide +kernel
theorem dX9_stateNow_69 : decode cX9_stateNow 69 = .ok (.getfield 44, 3) := by decide +kernel
theorem dX9_stateNow_72 : decode cX9_stateNow 72 = .ok (.iload_n 1, 1) := by decide +kernel
theorem dX9_stateNow_73 : decode cX9_stateNow 73 = .ok (.iaload, 1) := by decide +kernel
theorem dX9_stateNow_74 : decode cX9_stateNow 74 = .ok (.iload_n 2, 1) := by decide +kernel
theorem dX9_stateNow_75 : decode cX9_stateNow 75 = .ok (.iload 4, 2) := by decide +kernel
theorem dX9_stateNow_77 : decode cX9_stateNow 77 = .ok (.invokevirtual 146, 3) := by decide +kernel
theorem dX9_stateNow_80 : decode cX9_stateNow 80 = .ok (.if_icmp .ne 7, 3) := by decide +kernel
theorem dX9_stateNow_83 : decode cX9_stateNow 83 = .ok (.iconst 1, 1) := by decide +kernel
theorem dX9_stateNow_84 : decode cX9_stateNow 84 = .ok (.goto 4, 3) := by decide +kernel
theorem dX9_stateNow_87 : decode cX9_stateNow 87 = .ok (.iconst 0, 1) := by decide +kernel
theorem dX9_stateNow_88 : decode cX9_stateNow 88 = .ok (.istore_n 3, 1) := by decide +kernel
theorem dX9_stateNow_89 : decode cX9_stateNow 89 = .ok (.iinc 4 1, 3) := by decide +kernel
theorem dX9_stateNow_92 : decode cX9_stateNow 92 = .ok (.goto (-52), 3) := by decide +kernel
theorem dX9_stateNow_95 : decode cX9_stateNow 95 = .ok (.iload_n 3, 1) := by decide +kernel
theorem dX9_stateNow_96 : decode cX9_stateNow 96 = .ok (.ifCond .eq 8, 3) := by decide +kernel
theorem dX9_stateNow_99 : decode cX9_stateNow 99 = .ok (.bipush 112, 2) := by decide +kernel
theorem dX9_stateNow_101 : decode cX9_stateNow 101 = .ok (.goto 5, 3) := by decide +kernel
theorem dX9_stateNow_104 : decode cX9_stateNow 104 = .ok (.bipush 115, 2) := by decide +kernel
theorem dX9_stateNow_106 : decode cX9_stateNow 106 = .ok (.ireturn, 1) := by decide +kernel
theorem dX9_count_0 : decode cX9_count 0 = .ok (.iconst 0, 1) := by decide +kernel
theorem dX9_count_1 : decode cX9_count 1 = .ok (.istore_n 3, 1) := by decide +kernel
theorem dX9_count_2 : decode cX9_count 2 = .ok (.iconst 0, 1) := by decide +kernel
theorem dX9_count_3 : decode cX9_count 3 = .ok (.istore 4, 2) := by decide +kernel
theorem dX9_count_5 : decode cX9_count 5 = .ok (.iload 4, 2) := by decide +kernel
theorem dX9_count_7 : decode cX9_count 7 = .ok (.aload_n 0, 1) := by decide +kernel
theorem dX9_count_8 : decode cX9_count 8 = .ok (.iload_n 1, 1) := by decide +kernel
theorem dX9_count_9 : decode cX9_count 9 = .ok (.invokevirtual 175, 3) := by decide +kernel
theorem dX9_count_12 : decode cX9_count 12 = .ok (.if_icmp .ge 28, 3) := by decide +kernel
theorem dX9_count_15 : decode cX9_count 15 = .ok (.iload_n 3, 1) := by decide +kernel
theorem dX9_count_16 : decode cX9_count 16 = .ok (.aload_n 0, 1) := by decide +kernel
theorem dX9_count_17 : decode cX9_count 17 = .ok (.iload_n 1, 1) := by decide +kernel
theorem dX9_count_18 : decode cX9_count 18 = .ok (.iload 4, 2) := by decide +kernel
theorem dX9_count_20 : decode cX9_count 20 = .ok (.invokevirtual 178, 3) := by decide +kernel
theorem dX9_count_23 : decode cX9_count 23 = .ok (.iload_n 2, 1) := by decide +kernel
theorem dX9_count_24 : decode cX9_count 24 = .ok (.if_icmp .ne 7, 3) := by decide +kernel
theorem dX9_count_27 : decode cX9_count 27 = .ok (.iconst 1, 1) := by decide +kernel
theorem dX9_count_28 : decode cX9_count 28 = .ok (.goto 4, 3) := by decide +kernel
theorem dX9_count_31 : decode cX9_count 31 = .ok (.iconst 0, 1) := by decide +kernel
theorem dX9_count_32 : decode cX9_count 32 = .ok (.iadd, 1) := by decide +kernel
theorem dX9_count_33 : decode cX9_count 33 = .ok (.istore_n 3, 1) := by decide +kernel
theorem dX9_count_34 : decode cX9_count 34 = .ok (.iinc 4 1, 3) := by decide +kernel
theorem dX9_count_37 : decode cX9_count 37 = .ok (.goto (-32), 3) := by decide +kernel
theorem dX9_count_40 : decode cX9_count 40 = .ok (.iload_n 3, 1) := by decide +kernel
theorem dX9_count_41 : decode cX9_count 41 = .ok (.ireturn, 1) := by decide +kernel
theorem dX9_needed_0 : decode cX9_needed 0 = .ok (.aload_n 0, 1) := by decide +kernel
theorem dX9_needed_1 : decode cX9_needed 1 = .ok (.getfield 47, 3) := by decide +kernel
theorem dX9_needed_4 : decode cX9_needed 4 = .ok (.iload_n 1, 1) := by decide +kernel
theorem dX9_needed_5 : decode cX9_needed 5 = .ok (.iaload, 1) := by decide +kernel
theorem dX9_needed_6 : decode cX9_needed 6 = .ok (.aload_n 0, 1) := by decide +kernel
theorem dX9_needed_7 : decode cX9_needed 7 = .ok (.iload_n 1, 1) := by decide +kernel
theorem dX9_needed_8 : decode cX9_needed 8 = .ok (.bipush 119, 2) := by decide +kernel
theorem dX9_needed_10 : decode cX9_needed 10 = .ok (.invokevirtual 182, 3) := by decide +kernel
theorem dX9_needed_13 : decode cX9_needed 13 = .ok (.aload_n 0, 1) := by decide +kernel
theorem dX9_needed_14 : decode cX9_needed 14 = .ok (.iload_n 1, 1) := by decide +kernel
theorem dX9_needed_15 : decode cX9_needed 15 = .ok (.bipush 115, 2) := by decide +kernel
theorem dX9_needed_17 : decode cX9_needed 17 = .ok (.invokevirtual 182, 3) := by decide +kernel
theorem dX9_needed_20 : decode cX9_needed 20 = .ok (.iadd, 1) := by decide +kernel
theorem dX9_needed_21 : decode cX9_needed 21 = .ok (.imul, 1) := by decide +kernel
theorem dX9_needed_22 : decode cX9_needed 22 = .ok (.ireturn, 1) := by decide +kernel
theorem dX9_free_0 : decode cX9_free 0 = .ok (.aload_n 0, 1) := by decide +kernel
theorem dX9_free_1 : decode cX9_free 1 = .ok (.getfield 156, 3) := by decide +kernel
theorem dX9_free_4 : decode cX9_free 4 = .ok (.istore_n 1, 1) := by decide +kernel
theorem dX9_free_5 : decode cX9_free 5 = .ok (.iconst 0, 1) := by decide +kernel
theorem dX9_free_6 : decode cX9_free 6 = .ok (.istore_n 2, 1) := by decide +kernel
theorem dX9_free_7 : decode cX9_free 7 = .ok (.iload_n 2, 1) := by decide +kernel
theorem dX9_free_8 : decode cX9_free 8 = .ok (.aload_n 0, 1) := by decide +kernel
theorem dX9_free_9 : decode cX9_free 9 = .ok (.getfield 165, 3) := by decide +kernel
theorem dX9_free_12 : decode cX9_free 12 = .ok (.if_icmp .ge 17, 3) := by decide +kernel
theorem dX9_free_15 : decode cX9_free 15 = .ok (.iload_n 1, 1) := by decide +kernel
theorem dX9_free_16 : decode cX9_free 16 = .ok (.aload_n 0, 1) := by decide +kernel
theorem dX9_free_17 : decode cX9_free 17 = .ok (.iload_n 2, 1) := by decide +kernel
theorem dX9_free_18 : decode cX9_free 18 = .ok (.invokevirtual 186, 3) := by decide +kernel
theorem dX9_free_21 : decode cX9_free 21 = .ok (.isub, 1) := by decide +kernel
theorem dX9_free_22 : decode cX9_free 22 = .ok (.istore_n 1, 1) := by decide +kernel
theorem dX9_free_23 : decode cX9_free 23 = .ok (.iinc 2 1, 3) := by decide +kernel
theorem dX9_free_26 : decode cX9_free 26 = .ok (.goto (-19), 3) := by decide +kernel
theorem dX9_free_29 : decode cX9_free 29 = .ok (.iload_n 1, 1) := by decide +kernel
theorem dX9_free_30 : decode cX9_free 30 = .ok (.ireturn, 1) := by decide +kernel
theorem dX9_asksOrder_0 : decode cX9_asksOrder 0 = .ok (.aload_n 0, 1) := by decide +kernel
theorem dX9_asksOrder_1 : decode cX9_asksOrder 1 = .ok (.aload_n 0, 1) := by decide +kernel
theorem dX9_asksOrder_2 : decode cX9_asksOrder 2 = .ok (.iload_n 1, 1) := by decide +kernel
theorem dX9_asksOrder_3 : decode cX9_asksOrder 3 = .ok (.invokevirtual 189, 3) := by decide +kernel
theorem dX9_asksOrder_6 : decode cX9_asksOrder 6 = .ok (.ifCond .eq 7, 3) := by decide +kernel
theorem dX9_asksOrder_9 : decode cX9_asksOrder 9 = .ok (.iconst 0, 1) := by decide +kernel
theorem dX9_asksOrder_10 : decode cX9_asksOrder 10 = .ok (.goto 4, 3) := by decide +kernel
theorem dX9_asksOrder_13 : decode cX9_asksOrder 13 = .ok (.iconst 1, 1) := by decide +kernel
theorem dX9_asksOrder_14 : decode cX9_asksOrder 14 = .ok (.putfield 78, 3) := by decide +kernel
theorem dX9_asksOrder_17 : decode cX9_asksOrder 17 = .ok (.aload_n 0, 1) := by decide +kernel
theorem dX9_asksOrder_18 : decode cX9_asksOrder 18 = .ok (.getfield 78, 3) := by decide +kernel
theorem dX9_asksOrder_21 : decode cX9_asksOrder 21 = .ok (.ifCond .ne 7, 3) := by decide +kernel
theorem dX9_asksOrder_24 : decode cX9_asksOrder 24 = .ok (.iconst 1, 1) := by decide +kernel
theorem dX9_asksOrder_25 : decode cX9_asksOrder 25 = .ok (.goto 4, 3) := by decide +kernel
theorem dX9_asksOrder_28 : decode cX9_asksOrder 28 = .ok (.iconst 0, 1) := by decide +kernel
theorem dX9_asksOrder_29 : decode cX9_asksOrder 29 = .ok (.ireturn, 1) := by decide +kernel
theorem dX9_needs_0 : decode cX9_needs 0 = .ok (.aload_n 0, 1) := by decide +kernel
theorem dX9_needs_1 : decode cX9_needs 1 = .ok (.iload_n 1, 1) := by decide +kernel
theorem dX9_needs_2 : decode cX9_needs 2 = .ok (.invokevirtual 192, 3) := by decide +kernel
theorem dX9_needs_5 : decode cX9_needs 5 = .ok (.ifCond .eq 11, 3) := by decide +kernel
theorem dX9_needs_8 : decode cX9_needs 8 = .ok (.aload_n 0, 1) := by decide +kernel
theorem dX9_needs_9 : decode cX9_needs 9 = .ok (.iload_n 1, 1) := by decide +kernel
theorem dX9_needs_10 : decode cX9_needs 10 = .ok (.invokevirtual 186, 3) := by decide +kernel
theorem dX9_needs_13 : decode cX9_needs 13 = .ok (.goto 4, 3) := by decide +kernel
theorem dX9_needs_16 : decode cX9_needs 16 = .ok (.iconst (-1), 1) := by decide +kernel
theorem dX9_needs_17 : decode cX9_needs 17 = .ok (.ireturn, 1) := by decide +kernel
theorem dX9_freePaper_0 : decode cX9_freePaper 0 = .ok (.aload_n 0, 1) := by decide +kernel
theorem dX9_freePaper_1 : decode cX9_freePaper 1 = .ok (.iconst 0, 1) := by decide +kernel
theorem dX9_freePaper_2 : decode cX9_freePaper 2 = .ok (.putfield 78, 3) := by decide +kernel
theorem dX9_freePaper_5 : decode cX9_freePaper 5 = .ok (.aload_n 0, 1) := by decide +kernel
theorem dX9_freePaper_6 : decode cX9_freePaper 6 = .ok (.invokevirtual 168, 3) := by decide +kernel
theorem dX9_freePaper_9 : decode cX9_freePaper 9 = .ok (.ireturn, 1) := by decide +kernel
theorem dX9_asksSheet_0 : decode cX9_asksSheet 0 = .ok (.aload_n 0, 1) := by decide +kernel
theorem dX9_asksSheet_1 : decode cX9_asksSheet 1 = .ok (.iload_n 1, 1) := by decide +kernel
theorem dX9_asksSheet_2 : decode cX9_asksSheet 2 = .ok (.invokevirtual 192, 3) := by decide +kernel
theorem dX9_asksSheet_5 : decode cX9_asksSheet 5 = .ok (.ifCond .eq 29, 3) := by decide +kernel
theorem dX9_asksSheet_8 : decode cX9_asksSheet 8 = .ok (.aload_n 0, 1) := by decide +kernel
theorem dX9_asksSheet_9 : decode cX9_asksSheet 9 = .ok (.iload_n 2, 1) := by decide +kernel
theorem dX9_asksSheet_10 : decode cX9_asksSheet 10 = .ok (.i2l, 1) := by decide +kernel
theorem dX9_asksSheet_11 : decode cX9_asksSheet 11 = .ok (.lconst 0, 1) := by decide +kernel
theorem dX9_asksSheet_12 : decode cX9_asksSheet 12 = .ok (.aload_n 0, 1) := by decide +kernel
theorem dX9_asksSheet_13 : decode cX9_asksSheet 13 = .ok (.iload_n 1, 1) := by decide +kernel
theorem dX9_asksSheet_14 : decode cX9_asksSheet 14 = .ok (.invokevirtual 175, 3) := by decide +kernel
theorem dX9_asksSheet_17 : decode cX9_asksSheet 17 = .ok (.iconst 1, 1) := by decide +kernel
theorem dX9_asksSheet_18 : decode cX9_asksSheet 18 = .ok (.isub, 1) := by decide +kernel
theorem dX9_asksSheet_19 : decode cX9_asksSheet 19 = .ok (.i2l, 1) := by decide +kernel
theorem dX9_asksSheet_20 : decode cX9_asksSheet 20 = .ok (.invokestatic 84, 3) := by decide +kernel
theorem dX9_asksSheet_23 : decode cX9_asksSheet 23 = .ok (.ifCond .eq 7, 3) := by decide +kernel
theorem dX9_asksSheet_26 : decode cX9_asksSheet 26 = .ok (.iconst 0, 1) := by decide +kernel
theorem dX9_asksSheet_27 : decode cX9_asksSheet 27 = .ok (.goto 4, 3) := by decide +kernel
theorem dX9_asksSheet_30 : decode cX9_asksSheet 30 = .ok (.iconst 2, 1) := by decide +kernel
theorem dX9_asksSheet_31 : decode cX9_asksSheet 31 = .ok (.putfield 78, 3) := by decide +kernel
theorem dX9_asksSheet_34 : decode cX9_asksSheet 34 = .ok (.aload_n 0, 1) := by decide +kernel
theorem dX9_asksSheet_35 : decode cX9_asksSheet 35 = .ok (.getfield 78, 3) := by decide +kernel
theorem dX9_asksSheet_38 : decode cX9_asksSheet 38 = .ok (.ifCond .ne 7, 3) := by decide +kernel
theorem dX9_asksSheet_41 : decode cX9_asksSheet 41 = .ok (.iconst 1, 1) := by decide +kernel
theorem dX9_asksSheet_42 : decode cX9_asksSheet 42 = .ok (.goto 4, 3) := by decide +kernel
theorem dX9_asksSheet_45 : decode cX9_asksSheet 45 = .ok (.iconst 0, 1) := by decide +kernel
theorem dX9_asksSheet_46 : decode cX9_asksSheet 46 = .ok (.ireturn, 1) := by decide +kernel
theorem dX9_stateOf_0 : decode cX9_stateOf 0 = .ok (.aload_n 0, 1) := by decide +kernel
theorem dX9_stateOf_1 : decode cX9_stateOf 1 = .ok (.iload_n 1, 1) := by decide +kernel
theorem dX9_stateOf_2 : decode cX9_stateOf 2 = .ok (.iload_n 2, 1) := by decide +kernel
theorem dX9_stateOf_3 : decode cX9_stateOf 3 = .ok (.invokevirtual 195, 3) := by decide +kernel
theorem dX9_stateOf_6 : decode cX9_stateOf 6 = .ok (.ifCond .eq 12, 3) := by decide +kernel
theorem dX9_stateOf_9 : decode cX9_stateOf 9 = .ok (.aload_n 0, 1) := by decide +kernel
theorem dX9_stateOf_10 : decode cX9_stateOf 10 = .ok (.iload_n 1, 1) := by decide +kernel
theorem dX9_stateOf_11 : decode cX9_stateOf 11 = .ok (.iload_n 2, 1) := by decide +kernel
theorem dX9_stateOf_12 : decode cX9_stateOf 12 = .ok (.invokevirtual 178, 3) := by decide +kernel
theorem dX9_stateOf_15 : decode cX9_stateOf 15 = .ok (.goto 5, 3) := by decide +kernel
theorem dX9_stateOf_18 : decode cX9_stateOf 18 = .ok (.bipush 32, 2) := by decide +kernel
theorem dX9_stateOf_20 : decode cX9_stateOf 20 = .ok (.ireturn, 1) := by decide +kernel
theorem dX9_isAll_0 : decode cX9_isAll 0 = .ok (.aload_n 0, 1) := by decide +kernel
theorem dX9_isAll_1 : decode cX9_isAll 1 = .ok (.iload_n 1, 1) := by decide +kernel
theorem dX9_isAll_2 : decode cX9_isAll 2 = .ok (.bipush 112, 2) := by decide +kernel
theorem dX9_isAll_4 : decode cX9_isAll 4 = .ok (.invokevirtual 182, 3) := by decide +kernel
theorem dX9_isAll_7 : decode cX9_isAll 7 = .ok (.aload_n 0, 1) := by decide +kernel
theorem dX9_isAll_8 : decode cX9_isAll 8 = .ok (.iload_n 1, 1) := by decide +kernel
theorem dX9_isAll_9 : decode cX9_isAll 9 = .ok (.invokevirtual 175, 3) := by decide +kernel
theorem dX9_isAll_12 : decode cX9_isAll 12 = .ok (.if_icmp .ne 7, 3) := by decide +kernel
theorem dX9_isAll_15 : decode cX9_isAll 15 = .ok (.iconst 1, 1) := by decide +kernel
theorem dX9_isAll_16 : decode cX9_isAll 16 = .ok (.goto 4, 3) := by decide +kernel
theorem dX9_isAll_19 : decode cX9_isAll 19 = .ok (.iconst 0, 1) := by decide +kernel
theorem dX9_isAll_20 : decode cX9_isAll 20 = .ok (.ireturn, 1) := by decide +kernel
theorem dX9_isDone_0 : decode cX9_isDone 0 = .ok (.aload_n 0, 1) := by decide +kernel
theorem dX9_isDone_1 : decode cX9_isDone 1 = .ok (.iload_n 1, 1) := by decide +kernel
theorem dX9_isDone_2 : decode cX9_isDone 2 = .ok (.invokevirtual 192, 3) := by decide +kernel
theorem dX9_isDone_5 : decode cX9_isDone 5 = .ok (.ifCond .eq 15, 3) := by decide +kernel
theorem dX9_isDone_8 : decode cX9_isDone 8 = .ok (.aload_n 0, 1) := by decide +kernel
theorem dX9_isDone_9 : decode cX9_isDone 9 = .ok (.iload_n 1, 1) := by decide +kernel
theorem dX9_isDone_10 : decode cX9_isDone 10 = .ok (.invokevirtual 199, 3) := by decide +kernel
theorem dX9_isDone_13 : decode cX9_isDone 13 = .ok (.ifCond .eq 7, 3) := by decide +kernel
theorem dX9_isDone_16 : decode cX9_isDone 16 = .ok (.iconst 1, 1) := by decide +kernel
theorem dX9_isDone_17 : decode cX9_isDone 17 = .ok (.goto 4, 3) := by decide +kernel
theorem dX9_isDone_20 : decode cX9_isDone 20 = .ok (.iconst 0, 1) := by decide +kernel
theorem dX9_isDone_21 : decode cX9_isDone 21 = .ok (.ireturn, 1) := by decide +kernel
theorem dX9_lateBy_0 : decode cX9_lateBy 0 = .ok (.aload_n 0, 1) := by decide +kernel
theorem dX9_lateBy_1 : decode cX9_lateBy 1 = .ok (.iload_n 1, 1) := by decide +kernel
theorem dX9_lateBy_2 : decode cX9_lateBy 2 = .ok (.invokevirtual 192, 3) := by decide +kernel
theorem dX9_lateBy_5 : decode cX9_lateBy 5 = .ok (.ifCond .ne 5, 3) := by decide +kernel
theorem dX9_lateBy_8 : decode cX9_lateBy 8 = .ok (.iconst (-1), 1) := by decide +kernel
theorem dX9_lateBy_9 : decode cX9_lateBy 9 = .ok (.ireturn, 1) := by decide +kernel
theorem dX9_lateBy_10 : decode cX9_lateBy 10 = .ok (.aload_n 0, 1) := by decide +kernel
theorem dX9_lateBy_11 : decode cX9_lateBy 11 = .ok (.iload_n 1, 1) := by decide +kernel
theorem dX9_lateBy_12 : decode cX9_lateBy 12 = .ok (.invokevirtual 199, 3) := by decide +kernel
theorem dX9_lateBy_15 : decode cX9_lateBy 15 = .ok (.ifCond .ne 16, 3) := by decide +kernel
theorem dX9_lateBy_18 : decode cX9_lateBy 18 = .ok (.aload_n 0, 1) := by decide +kernel
theorem dX9_lateBy_19 : decode cX9_lateBy 19 = .ok (.getfield 88, 3) := by decide +kernel
theorem dX9_lateBy_22 : decode cX9_lateBy 22 = .ok (.aload_n 0, 1) := by decide +kernel
theorem dX9_lateBy_23 : decode cX9_lateBy 23 = .ok (.getfield 50, 3) := by decide +kernel
theorem dX9_lateBy_26 : decode cX9_lateBy 26 = .ok (.iload_n 1, 1) := by decide +kernel
theorem dX9_lateBy_27 : decode cX9_lateBy 27 = .ok (.iaload, 1) := by decide +kernel
theorem dX9_lateBy_28 : decode cX9_lateBy 28 = .ok (.if_icmp .ge 7, 3) := by decide +kernel
theorem dX9_lateBy_31 : decode cX9_lateBy 31 = .ok (.iconst 0, 1) := by decide +kernel
theorem dX9_lateBy_32 : decode cX9_lateBy 32 = .ok (.goto 14, 3) := by decide +kernel
theorem dX9_lateBy_35 : decode cX9_lateBy 35 = .ok (.aload_n 0, 1) := by decide +kernel
theorem dX9_lateBy_36 : decode cX9_lateBy 36 = .ok (.getfield 88, 3) := by decide +kernel
theorem dX9_lateBy_39 : decode cX9_lateBy 39 = .ok (.aload_n 0, 1) := by decide +kernel
theorem dX9_lateBy_40 : decode cX9_lateBy 40 = .ok (.getfield 50, 3) := by decide +kernel
theorem dX9_lateBy_43 : decode cX9_lateBy 43 = .ok (.iload_n 1, 1) := by decide +kernel
theorem dX9_lateBy_44 : decode cX9_lateBy 44 = .ok (.iaload, 1) := by decide +kernel
theorem dX9_lateBy_45 : decode cX9_lateBy 45 = .ok (.isub, 1) := by decide +kernel
theorem dX9_lateBy_46 : decode cX9_lateBy 46 = .ok (.ireturn, 1) := by decide +kernel
theorem dX9_nextOrder_0 : decode cX9_nextOrder 0 = .ok (.iconst (-1), 1) := by decide +kernel
theorem dX9_nextOrder_1 : decode cX9_nextOrder 1 = .ok (.istore_n 1, 1) := by decide +kernel
theorem dX9_nextOrder_2 : decode cX9_nextOrder 2 = .ok (.iconst 0, 1) := by decide +kernel
theorem dX9_nextOrder_3 : decode cX9_nextOrder 3 = .ok (.istore_n 2, 1) := by decide +kernel
theorem dX9_nextOrder_4 : decode cX9_nextOrder 4 = .ok (.iload_n 2, 1) := by decide +kernel
theorem dX9_nextOrder_5 : decode cX9_nextOrder 5 = .ok (.aload_n 0, 1) := by decide +kernel
theorem dX9_nextOrder_6 : decode cX9_nextOrder 6 = .ok (.getfield 165, 3) := by decide +kernel
theorem dX9_nextOrder_9 : decode cX9_nextOrder 9 = .ok (.if_icmp .ge 83, 3) := by decide +kernel
theorem dX9_nextOrder_12 : decode cX9_nextOrder 12 = .ok (.iload_n 1, 1) := by decide +kernel
theorem dX9_nextOrder_13 : decode cX9_nextOrder 13 = .ok (.iconst (-1), 1) := by decide +kernel
theorem dX9_nextOrder_14 : decode cX9_nextOrder 14 = .ok (.if_icmp .eq 48, 3) := by decide +kernel
theorem dX9_nextOrder_17 : decode cX9_nextOrder 17 = .ok (.aload_n 0, 1) := by decide +kernel
theorem dX9_nextOrder_18 : decode cX9_nextOrder 18 = .ok (.getfield 50, 3) := by decide +kernel
theorem dX9_nextOrder_21 : decode cX9_nextOrder 21 = .ok (.iload_n 2, 1) := by decide +kernel
theorem dX9_nextOrder_22 : decode cX9_nextOrder 22 = .ok (.iaload, 1) := by decide +kernel
theorem dX9_nextOrder_23 : decode cX9_nextOrder 23 = .ok (.aload_n 0, 1) := by decide +kernel
theorem dX9_nextOrder_24 : decode cX9_nextOrder 24 = .ok (.getfield 50, 3) := by decide +kernel
theorem dX9_nextOrder_27 : decode cX9_nextOrder 27 = .ok (.iload_n 1, 1) := by decide +kernel
theorem dX9_nextOrder_28 : decode cX9_nextOrder 28 = .ok (.iaload, 1) := by decide +kernel
theorem dX9_nextOrder_29 : decode cX9_nextOrder 29 = .ok (.if_icmp .lt 33, 3) := by decide +kernel
theorem dX9_nextOrder_32 : decode cX9_nextOrder 32 = .ok (.aload_n 0, 1) := by decide +kernel
theorem dX9_nextOrder_33 : decode cX9_nextOrder 33 = .ok (.getfield 50, 3) := by decide +kernel
theorem dX9_nextOrder_36 : decode cX9_nextOrder 36 = .ok (.iload_n 2, 1) := by decide +kernel
theorem dX9_nextOrder_37 : decode cX9_nextOrder 37 = .ok (.iaload, 1) := by decide +kernel
theorem dX9_nextOrder_38 : decode cX9_nextOrder 38 = .ok (.aload_n 0, 1) := by decide +kernel
theorem dX9_nextOrder_39 : decode cX9_nextOrder 39 = .ok (.getfield 50, 3) := by decide +kernel
theorem dX9_nextOrder_42 : decode cX9_nextOrder 42 = .ok (.iload_n 1, 1) := by decide +kernel
theorem dX9_nextOrder_43 : decode cX9_nextOrder 43 = .ok (.iaload, 1) := by decide +kernel
theorem dX9_nextOrder_44 : decode cX9_nextOrder 44 = .ok (.if_icmp .ne 22, 3) := by decide +kernel
theorem dX9_nextOrder_47 : decode cX9_nextOrder 47 = .ok (.aload_n 0, 1) := by decide +kernel
theorem dX9_nextOrder_48 : decode cX9_nextOrder 48 = .ok (.getfield 47, 3) := by decide +kernel
theorem dX9_nextOrder_51 : decode cX9_nextOrder 51 = .ok (.iload_n 2, 1) := by decide +kernel
theorem dX9_nextOrder_52 : decode cX9_nextOrder 52 = .ok (.iaload, 1) := by decide +kernel
theorem dX9_nextOrder_53 : decode cX9_nextOrder 53 = .ok (.aload_n 0, 1) := by decide +kernel
theorem dX9_nextOrder_54 : decode cX9_nextOrder 54 = .ok (.getfield 47, 3) := by decide +kernel
theorem dX9_nextOrder_57 : decode cX9_nextOrder 57 = .ok (.iload_n 1, 1) := by decide +kernel
theorem dX9_nextOrder_58 : decode cX9_nextOrder 58 = .ok (.iaload, 1) := by decide +kernel
theorem dX9_nextOrder_59 : decode cX9_nextOrder 59 = .ok (.if_icmp .le 7, 3) := by decide +kernel
theorem dX9_nextOrder_62 : decode cX9_nextOrder 62 = .ok (.iconst 1, 1) := by decide +kernel
theorem dX9_nextOrder_63 : decode cX9_nextOrder 63 = .ok (.goto 4, 3) := by decide +kernel
theorem dX9_nextOrder_66 : decode cX9_nextOrder 66 = .ok (.iconst 0, 1) := by decide +kernel
theorem dX9_nextOrder_67 : decode cX9_nextOrder 67 = .ok (.istore_n 3, 1) := by decide +kernel
theorem dX9_nextOrder_68 : decode cX9_nextOrder 68 = .ok (.aload_n 0, 1) := by decide +kernel
theorem dX9_nextOrder_69 : decode cX9_nextOrder 69 = .ok (.iload_n 2, 1) := by decide +kernel
theorem dX9_nextOrder_70 : decode cX9_nextOrder 70 = .ok (.invokevirtual 199, 3) := by decide +kernel
theorem dX9_nextOrder_73 : decode cX9_nextOrder 73 = .ok (.ifCond .ne 11, 3) := by decide +kernel
theorem dX9_nextOrder_76 : decode cX9_nextOrder 76 = .ok (.iload_n 3, 1) := by decide +kernel
theorem dX9_nextOrder_77 : decode cX9_nextOrder 77 = .ok (.ifCond .eq 7, 3) := by decide +kernel
theorem dX9_nextOrder_80 : decode cX9_nextOrder 80 = .ok (.iload_n 2, 1) := by decide +kernel
theorem dX9_nextOrder_81 : decode cX9_nextOrder 81 = .ok (.goto 4, 3) := by decide +kernel
theorem dX9_nextOrder_84 : decode cX9_nextOrder 84 = .ok (.iload_n 1, 1) := by decide +kernel
theorem dX9_nextOrder_85 : decode cX9_nextOrder 85 = .ok (.istore_n 1, 1) := by decide +kernel
theorem dX9_nextOrder_86 : decode cX9_nextOrder 86 = .ok (.iinc 2 1, 3) := by decide +kernel
theorem dX9_nextOrder_89 : decode cX9_nextOrder 89 = .ok (.goto (-85), 3) := by decide +kernel
theorem dX9_nextOrder_92 : decode cX9_nextOrder 92 = .ok (.aload_n 0, 1) := by decide +kernel
theorem dX9_nextOrder_93 : decode cX9_nextOrder 93 = .ok (.iload_n 1, 1) := by decide +kernel
theorem dX9_nextOrder_94 : decode cX9_nextOrder 94 = .ok (.iconst (-1), 1) := by decide +kernel
theorem dX9_nextOrder_95 : decode cX9_nextOrder 95 = .ok (.if_icmp .ne 7, 3) := by decide +kernel
theorem dX9_nextOrder_98 : decode cX9_nextOrder 98 = .ok (.iconst 1, 1) := by decide +kernel
theorem dX9_nextOrder_99 : decode cX9_nextOrder 99 = .ok (.goto 4, 3) := by decide +kernel
theorem dX9_nextOrder_102 : decode cX9_nextOrder 102 = .ok (.iconst 0, 1) := by decide +kernel
theorem dX9_nextOrder_103 : decode cX9_nextOrder 103 = .ok (.putfield 78, 3) := by decide +kernel
theorem dX9_nextOrder_106 : decode cX9_nextOrder 106 = .ok (.iload_n 1, 1) := by decide +kernel
theorem dX9_nextOrder_107 : decode cX9_nextOrder 107 = .ok (.ireturn, 1) := by decide +kernel
theorem dX9_nextSheet_0 : decode cX9_nextSheet 0 = .ok (.aload_n 0, 1) := by decide +kernel
theorem dX9_nextSheet_1 : decode cX9_nextSheet 1 = .ok (.iload_n 1, 1) := by decide +kernel
theorem dX9_nextSheet_2 : decode cX9_nextSheet 2 = .ok (.invokevirtual 192, 3) := by decide +kernel
theorem dX9_nextSheet_5 : decode cX9_nextSheet 5 = .ok (.ifCond .ne 5, 3) := by decide +kernel
theorem dX9_nextSheet_8 : decode cX9_nextSheet 8 = .ok (.iconst (-1), 1) := by decide +kernel
theorem dX9_nextSheet_9 : decode cX9_nextSheet 9 = .ok (.ireturn, 1) := by decide +kernel
theorem dX9_nextSheet_10 : decode cX9_nextSheet 10 = .ok (.iconst 0, 1) := by decide +kernel
theorem dX9_nextSheet_11 : decode cX9_nextSheet 11 = .ok (.istore_n 2, 1) := by decide +kernel
theorem dX9_nextSheet_12 : decode cX9_nextSheet 12 = .ok (.iload_n 2, 1) := by decide +kernel
theorem dX9_nextSheet_13 : decode cX9_nextSheet 13 = .ok (.aload_n 0, 1) := by decide +kernel
theorem dX9_nextSheet_14 : decode cX9_nextSheet 14 = .ok (.iload_n 1, 1) := by decide +kernel
theorem dX9_nextSheet_15 : decode cX9_nextSheet 15 = .ok (.invokevirtual 175, 3) := by decide +kernel
theorem dX9_nextSheet_18 : decode cX9_nextSheet 18 = .ok (.if_icmp .ge 33, 3) := by decide +kernel
theorem dX9_nextSheet_21 : decode cX9_nextSheet 21 = .ok (.aload_n 0, 1) := by decide +kernel
theorem dX9_nextSheet_22 : decode cX9_nextSheet 22 = .ok (.iload_n 1, 1) := by decide +kernel
theorem dX9_nextSheet_23 : decode cX9_nextSheet 23 = .ok (.iload_n 2, 1) := by decide +kernel
theorem dX9_nextSheet_24 : decode cX9_nextSheet 24 = .ok (.invokevirtual 178, 3) := by decide +kernel
theorem dX9_nextSheet_27 : decode cX9_nextSheet 27 = .ok (.bipush 119, 2) := by decide +kernel
theorem dX9_nextSheet_29 : decode cX9_nextSheet 29 = .ok (.if_icmp .eq 14, 3) := by decide +kernel
theorem dX9_nextSheet_32 : decode cX9_nextSheet 32 = .ok (.aload_n 0, 1) := by decide +kernel
theorem dX9_nextSheet_33 : decode cX9_nextSheet 33 = .ok (.iload_n 1, 1) := by decide +kernel
theorem dX9_nextSheet_34 : decode cX9_nextSheet 34 = .ok (.iload_n 2, 1) := by decide +kernel
theorem dX9_nextSheet_35 : decode cX9_nextSheet 35 = .ok (.invokevirtual 178, 3) := by decide +kernel
theorem dX9_nextSheet_38 : decode cX9_nextSheet 38 = .ok (.bipush 115, 2) := by decide +kernel
theorem dX9_nextSheet_40 : decode cX9_nextSheet 40 = .ok (.if_icmp .ne 5, 3) := by decide +kernel
theorem dX9_nextSheet_43 : decode cX9_nextSheet 43 = .ok (.iload_n 2, 1) := by decide +kernel
theorem dX9_nextSheet_44 : decode cX9_nextSheet 44 = .ok (.ireturn, 1) := by decide +kernel
theorem dX9_nextSheet_45 : decode cX9_nextSheet 45 = .ok (.iinc 2 1, 3) := by decide +kernel
theorem dX9_nextSheet_48 : decode cX9_nextSheet 48 = .ok (.goto (-36), 3) := by decide +kernel
theorem dX9_nextSheet_51 : decode cX9_nextSheet 51 = .ok (.aload_n 0, 1) := by decide +kernel
theorem dX9_nextSheet_52 : decode cX9_nextSheet 52 = .ok (.iconst 2, 1) := by decide +kernel
theorem dX9_nextSheet_53 : decode cX9_nextSheet 53 = .ok (.putfield 78, 3) := by decide +kernel
theorem dX9_nextSheet_56 : decode cX9_nextSheet 56 = .ok (.iconst (-1), 1) := by decide +kernel
theorem dX9_nextSheet_57 : decode cX9_nextSheet 57 = .ok (.ireturn, 1) := by decide +kernel
theorem dX9_made_0 : decode cX9_made 0 = .ok (.iconst 0, 1) := by decide +kernel
theorem dX9_made_1 : decode cX9_made 1 = .ok (.istore 4, 2) := by decide +kernel
theorem dX9_made_3 : decode cX9_made 3 = .ok (.bipush 31, 2) := by decide +kernel
theorem dX9_made_5 : decode cX9_made 5 = .ok (.istore 5, 2) := by decide +kernel
theorem dX9_made_7 : decode cX9_made 7 = .ok (.iload 5, 2) := by decide +kernel
theorem dX9_made_9 : decode cX9_made 9 = .ok (.ifCond .lt 39, 3) := by decide +kernel
theorem dX9_made_12 : decode cX9_made 12 = .ok (.aload_n 0, 1) := by decide +kernel
theorem dX9_made_13 : decode cX9_made 13 = .ok (.aload_n 0, 1) := by decide +kernel
theorem dX9_made_14 : decode cX9_made 14 = .ok (.getfield 44, 3) := by decide +kernel
theorem dX9_made_17 : decode cX9_made 17 = .ok (.iload_n 1, 1) := by decide +kernel
theorem dX9_made_18 : decode cX9_made 18 = .ok (.iaload, 1) := by decide +kernel
theorem dX9_made_19 : decode cX9_made 19 = .ok (.iload_n 2, 1) := by decide +kernel
theorem dX9_made_20 : decode cX9_made 20 = .ok (.iload 5, 2) := by decide +kernel
theorem dX9_made_22 : decode cX9_made 22 = .ok (.invokevirtual 146, 3) := by decide +kernel
theorem dX9_made_25 : decode cX9_made 25 = .ok (.istore 6, 2) := by decide +kernel
theorem dX9_made_27 : decode cX9_made 27 = .ok (.iload 6, 2) := by decide +kernel
theorem dX9_made_29 : decode cX9_made 29 = .ok (.iconst (-1), 1) := by decide +kernel
theorem dX9_made_30 : decode cX9_made 30 = .ok (.if_icmp .eq 12, 3) := by decide +kernel
theorem dX9_made_33 : decode cX9_made 33 = .ok (.aload_n 3, 1) := by decide +kernel
theorem dX9_made_34 : decode cX9_made 34 = .ok (.iload 4, 2) := by decide +kernel
theorem dX9_made_36 : decode cX9_made 36 = .ok (.iload 6, 2) := by decide +kernel
theorem dX9_made_38 : decode cX9_made 38 = .ok (.iastore, 1) := by decide +kernel
theorem dX9_made_39 : decode cX9_made 39 = .ok (.iinc 4 1, 3) := by decide +kernel
theorem dX9_made_42 : decode cX9_made 42 = .ok (.iinc 5 (-1), 3) := by decide +kernel
theorem dX9_made_45 : decode cX9_made 45 = .ok (.goto (-38), 3) := by decide +kernel
theorem dX9_made_48 : decode cX9_made 48 = .ok (.iload 4, 2) := by decide +kernel
theorem dX9_made_50 : decode cX9_made 50 = .ok (.ireturn, 1) := by decide +kernel
theorem dX9_print_0 : decode cX9_print 0 = .ok (.aload_n 0, 1) := by decide +kernel
theorem dX9_print_1 : decode cX9_print 1 = .ok (.iload_n 1, 1) := by decide +kernel
theorem dX9_print_2 : decode cX9_print 2 = .ok (.iload_n 2, 1) := by decide +kernel
theorem dX9_print_3 : decode cX9_print 3 = .ok (.invokevirtual 195, 3) := by decide +kernel
theorem dX9_print_6 : decode cX9_print 6 = .ok (.ifCond .ne 5, 3) := by decide +kernel
theorem dX9_print_9 : decode cX9_print 9 = .ok (.iconst (-1), 1) := by decide +kernel
theorem dX9_print_10 : decode cX9_print 10 = .ok (.ireturn, 1) := by decide +kernel
theorem dX9_print_11 : decode cX9_print 11 = .ok (.aload_n 0, 1) := by decide +kernel
theorem dX9_print_12 : decode cX9_print 12 = .ok (.getfield 71, 3) := by decide +kernel
theorem dX9_print_15 : decode cX9_print 15 = .ok (.iconst (-1), 1) := by decide +kernel
theorem dX9_print_16 : decode cX9_print 16 = .ok (.if_icmp .ne 14, 3) := by decide +kernel
theorem dX9_print_19 : decode cX9_print 19 = .ok (.aload_n 0, 1) := by decide +kernel
theorem dX9_print_20 : decode cX9_print 20 = .ok (.iload_n 1, 1) := by decide +kernel
theorem dX9_print_21 : decode cX9_print 21 = .ok (.iload_n 2, 1) := by decide +kernel
theorem dX9_print_22 : decode cX9_print 22 = .ok (.invokevirtual 178, 3) := by decide +kernel
theorem dX9_print_25 : decode cX9_print 25 = .ok (.bipush 112, 2) := by decide +kernel
theorem dX9_print_27 : decode cX9_print 27 = .ok (.if_icmp .ne 10, 3) := by decide +kernel
theorem dX9_print_30 : decode cX9_print 30 = .ok (.aload_n 0, 1) := by decide +kernel
theorem dX9_print_31 : decode cX9_print 31 = .ok (.iconst 3, 1) := by decide +kernel
theorem dX9_print_32 : decode cX9_print 32 = .ok (.putfield 78, 3) := by decide +kernel
theorem dX9_print_35 : decode cX9_print 35 = .ok (.iconst (-1), 1) := by decide +kernel
theorem dX9_print_36 : decode cX9_print 36 = .ok (.ireturn, 1) := by decide +kernel
theorem dX9_print_37 : decode cX9_print 37 = .ok (.iconst 3, 1) := by decide +kernel
theorem dX9_print_38 : decode cX9_print 38 = .ok (.iload_n 1, 1) := by decide +kernel
theorem dX9_print_39 : decode cX9_print 39 = .ok (.imul, 1) := by decide +kernel
theorem dX9_print_40 : decode cX9_print 40 = .ok (.iload_n 2, 1) := by decide +kernel
theorem dX9_print_41 : decode cX9_print 41 = .ok (.iadd, 1) := by decide +kernel
theorem dX9_print_42 : decode cX9_print 42 = .ok (.istore_n 3, 1) := by decide +kernel
theorem dX9_print_43 : decode cX9_print 43 = .ok (.bipush 32, 2) := by decide +kernel
theorem dX9_print_45 : decode cX9_print 45 = .ok (.newarray .int, 2) := by decide +kernel
theorem dX9_print_47 : decode cX9_print 47 = .ok (.astore 4, 2) := by decide +kernel
theorem dX9_print_49 : decode cX9_print 49 = .ok (.aload_n 0, 1) := by decide +kernel
theorem dX9_print_50 : decode cX9_print 50 = .ok (.iload_n 1, 1) := by decide +kernel
theorem dX9_print_51 : decode cX9_print 51 = .ok (.iload_n 2, 1) := by decide +kernel
theorem dX9_print_52 : decode cX9_print 52 = .ok (.aload 4, 2) := by decide +kernel
theorem dX9_print_54 : decode cX9_print 54 = .ok (.invokevirtual 202, 3) := by decide +kernel
theorem dX9_print_57 : decode cX9_print 57 = .ok (.istore 5, 2) := by decide +kernel
theorem dX9_print_59 : decode cX9_print 59 = .ok (.aload_n 0, 1) := by decide +kernel
theorem dX9_print_60 : decode cX9_print 60 = .ok (.getfield 62, 3) := by decide +kernel
theorem dX9_print_63 : decode cX9_print 63 = .ok (.iload_n 3, 1) := by decide +kernel
theorem dX9_print_64 : decode cX9_print 64 = .ok (.iaload, 1) := by decide +kernel
theorem dX9_print_65 : decode cX9_print 65 = .ok (.iload 5, 2) := by decide +kernel
theorem dX9_print_67 : decode cX9_print 67 = .ok (.if_icmp .ne 7, 3) := by decide +kernel
theorem dX9_print_70 : decode cX9_print 70 = .ok (.iconst 1, 1) := by decide +kernel
theorem dX9_print_71 : decode cX9_print 71 = .ok (.goto 4, 3) := by decide +kernel
theorem dX9_print_74 : decode cX9_print 74 = .ok (.iconst 0, 1) := by decide +kernel
theorem dX9_print_75 : decode cX9_print 75 = .ok (.istore 6, 2) := by decide +kernel
theorem dX9_print_77 : decode cX9_print 77 = .ok (.iconst 0, 1) := by decide +kernel
theorem dX9_print_78 : decode cX9_print 78 = .ok (.istore 7, 2) := by decide +kernel
theorem dX9_print_80 : decode cX9_print 80 = .ok (.iload 7, 2) := by decide +kernel
theorem dX9_print_82 : decode cX9_print 82 = .ok (.iload 5, 2) := by decide +kernel
theorem dX9_print_84 : decode cX9_print 84 = .ok (.if_icmp .ge 41, 3) := by decide +kernel
theorem dX9_print_87 : decode cX9_print 87 = .ok (.iload 6, 2) := by decide +kernel
theorem dX9_print_89 : decode cX9_print 89 = .ok (.ifCond .eq 27, 3) := by decide +kernel
theorem dX9_print_92 : decode cX9_print 92 = .ok (.aload_n 0, 1) := by decide +kernel
theorem dX9_print_93 : decode cX9_print 93 = .ok (.getfield 68, 3) := by decide +kernel
theorem dX9_print_96 : decode cX9_print 96 = .ok (.bipush 32, 2) := by decide +kernel
theorem dX9_print_98 : decode cX9_print 98 = .ok (.iload_n 3, 1) := by decide +kernel
theorem dX9_print_99 : decode cX9_print 99 = .ok (.imul, 1) := by decide +kernel
theorem dX9_print_100 : decode cX9_print 100 = .ok (.iload 7, 2) := by decide +kernel
theorem dX9_print_102 : decode cX9_print 102 = .ok (.iadd, 1) := by decide +kernel
theorem dX9_print_103 : decode cX9_print 103 = .ok (.iaload, 1) := by decide +kernel
theorem dX9_print_104 : decode cX9_print 104 = .ok (.aload 4, 2) := by decide +kernel
theorem dX9_print_106 : decode cX9_print 106 = .ok (.iload 7, 2) := by decide +kernel
theorem dX9_print_108 : decode cX9_print 108 = .ok (.iaload, 1) := by decide +kernel
theorem dX9_print_109 : decode cX9_print 109 = .ok (.if_icmp .ne 7, 3) := by decide +kernel
theorem dX9_print_112 : decode cX9_print 112 = .ok (.iconst 1, 1) := by decide +kernel
theorem dX9_print_113 : decode cX9_print 113 = .ok (.goto 4, 3) := by decide +kernel
theorem dX9_print_116 : decode cX9_print 116 = .ok (.iconst 0, 1) := by decide +kernel
theorem dX9_print_117 : decode cX9_print 117 = .ok (.istore 6, 2) := by decide +kernel
theorem dX9_print_119 : decode cX9_print 119 = .ok (.iinc 7 1, 3) := by decide +kernel
theorem dX9_print_122 : decode cX9_print 122 = .ok (.goto (-42), 3) := by decide +kernel
theorem dX9_print_125 : decode cX9_print 125 = .ok (.aload_n 0, 1) := by decide +kernel
theorem dX9_print_126 : decode cX9_print 126 = .ok (.aload_n 0, 1) := by decide +kernel
theorem dX9_print_127 : decode cX9_print 127 = .ok (.getfield 156, 3) := by decide +kernel
theorem dX9_print_130 : decode cX9_print 130 = .ok (.aload_n 0, 1) := by decide +kernel
theorem dX9_print_131 : decode cX9_print 131 = .ok (.getfield 47, 3) := by decide +kernel
theorem dX9_print_134 : decode cX9_print 134 = .ok (.iload_n 1, 1) := by decide +kernel
theorem dX9_print_135 : decode cX9_print 135 = .ok (.iaload, 1) := by decide +kernel
theorem dX9_print_136 : decode cX9_print 136 = .ok (.if_icmp .lt 15, 3) := by decide +kernel
theorem dX9_print_139 : decode cX9_print 139 = .ok (.iload 6, 2) := by decide +kernel
theorem dX9_print_141 : decode cX9_print 141 = .ok (.ifCond .ne 14, 3) := by decide +kernel
theorem dX9_print_144 : decode cX9_print 144 = .ok (.aload_n 0, 1) := by decide +kernel
theorem dX9_print_145 : decode cX9_print 145 = .ok (.getfield 160, 3) := by decide +kernel
theorem dX9_print_148 : decode cX9_print 148 = .ok (.ifCond .ne 7, 3) := by decide +kernel
theorem dX9_print_151 : decode cX9_print 151 = .ok (.iconst 4, 1) := by decide +kernel
theorem dX9_print_152 : decode cX9_print 152 = .ok (.goto 4, 3) := by decide +kernel
theorem dX9_print_155 : decode cX9_print 155 = .ok (.iconst 0, 1) := by decide +kernel
theorem dX9_print_156 : decode cX9_print 156 = .ok (.putfield 78, 3) := by decide +kernel
theorem dX9_print_159 : decode cX9_print 159 = .ok (.aload_n 0, 1) := by decide +kernel
theorem dX9_print_160 : decode cX9_print 160 = .ok (.getfield 78, 3) := by decide +kernel
theorem dX9_print_163 : decode cX9_print 163 = .ok (.ifCond .le 5, 3) := by decide +kernel
theorem dX9_print_166 : decode cX9_print 166 = .ok (.iconst (-1), 1) := by decide +kernel
theorem dX9_print_167 : decode cX9_print 167 = .ok (.ireturn, 1) := by decide +kernel
theorem dX9_print_168 : decode cX9_print 168 = .ok (.aload_n 0, 1) := by decide +kernel
theorem dX9_print_169 : decode cX9_print 169 = .ok (.dup, 1) := by decide +kernel
theorem dX9_print_170 : decode cX9_print 170 = .ok (.getfield 156, 3) := by decide +kernel
theorem dX9_print_173 : decode cX9_print 173 = .ok (.aload_n 0, 1) := by decide +kernel
theorem dX9_print_174 : decode cX9_print 174 = .ok (.getfield 47, 3) := by decide +kernel
theorem dX9_print_177 : decode cX9_print 177 = .ok (.iload_n 1, 1) := by decide +kernel
theorem dX9_print_178 : decode cX9_print 178 = .ok (.iaload, 1) := by decide +kernel
theorem dX9_print_179 : decode cX9_print 179 = .ok (.isub, 1) := by decide +kernel
theorem dX9_print_180 : decode cX9_print 180 = .ok (.putfield 156, 3) := by decide +kernel
theorem dX9_print_183 : decode cX9_print 183 = .ok (.aload_n 0, 1) := by decide +kernel
theorem dX9_print_184 : decode cX9_print 184 = .ok (.getfield 53, 3) := by decide +kernel
theorem dX9_print_187 : decode cX9_print 187 = .ok (.iload_n 1, 1) := by decide +kernel
theorem dX9_print_188 : decode cX9_print 188 = .ok (.dup2, 1) := by decide +kernel
theorem dX9_print_189 : decode cX9_print 189 = .ok (.iaload, 1) := by decide +kernel
theorem dX9_print_190 : decode cX9_print 190 = .ok (.aload_n 0, 1) := by decide +kernel
theorem dX9_print_191 : decode cX9_print 191 = .ok (.getfield 47, 3) := by decide +kernel
theorem dX9_print_194 : decode cX9_print 194 = .ok (.iload_n 1, 1) := by decide +kernel
theorem dX9_print_195 : decode cX9_print 195 = .ok (.iaload, 1) := by decide +kernel
theorem dX9_print_196 : decode cX9_print 196 = .ok (.iadd, 1) := by decide +kernel
theorem dX9_print_197 : decode cX9_print 197 = .ok (.iastore, 1) := by decide +kernel
theorem dX9_print_198 : decode cX9_print 198 = .ok (.aload_n 0, 1) := by decide +kernel
theorem dX9_print_199 : decode cX9_print 199 = .ok (.dup, 1) := by decide +kernel
theorem dX9_print_200 : decode cX9_print 200 = .ok (.getfield 160, 3) := by decide +kernel
theorem dX9_print_203 : decode cX9_print 203 = .ok (.iload 6, 2) := by decide +kernel
theorem dX9_print_205 : decode cX9_print 205 = .ok (.ifCond .eq 7, 3) := by decide +kernel
theorem dX9_print_208 : decode cX9_print 208 = .ok (.iconst 0, 1) := by decide +kernel
theorem dX9_print_209 : decode cX9_print 209 = .ok (.goto 4, 3) := by decide +kernel
theorem dX9_print_212 : decode cX9_print 212 = .ok (.iconst 1, 1) := by decide +kernel
theorem dX9_print_213 : decode cX9_print 213 = .ok (.isub, 1) := by decide +kernel
theorem dX9_print_214 : decode cX9_print 214 = .ok (.putfield 160, 3) := by decide +kernel
theorem dX9_print_217 : decode cX9_print 217 = .ok (.aload_n 0, 1) := by decide +kernel
theorem dX9_print_218 : decode cX9_print 218 = .ok (.getfield 56, 3) := by decide +kernel
theorem dX9_print_221 : decode cX9_print 221 = .ok (.iload_n 1, 1) := by decide +kernel
theorem dX9_print_222 : decode cX9_print 222 = .ok (.dup2, 1) := by decide +kernel
theorem dX9_print_223 : decode cX9_print 223 = .ok (.iaload, 1) := by decide +kernel
theorem dX9_print_224 : decode cX9_print 224 = .ok (.iload 6, 2) := by decide +kernel
theorem dX9_print_226 : decode cX9_print 226 = .ok (.ifCond .eq 7, 3) := by decide +kernel
theorem dX9_print_229 : decode cX9_print 229 = .ok (.iconst 0, 1) := by decide +kernel
theorem dX9_print_230 : decode cX9_print 230 = .ok (.goto 4, 3) := by decide +kernel
theorem dX9_print_233 : decode cX9_print 233 = .ok (.iconst 1, 1) := by decide +kernel
theorem dX9_print_234 : decode cX9_print 234 = .ok (.iadd, 1) := by decide +kernel
theorem dX9_print_235 : decode cX9_print 235 = .ok (.iastore, 1) := by decide +kernel
theorem dX9_print_236 : decode cX9_print 236 = .ok (.aload_n 0, 1) := by decide +kernel
theorem dX9_print_237 : decode cX9_print 237 = .ok (.getfield 62, 3) := by decide +kernel
theorem dX9_print_240 : decode cX9_print 240 = .ok (.iload_n 3, 1) := by decide +kernel
theorem dX9_print_241 : decode cX9_print 241 = .ok (.iload 5, 2) := by decide +kernel
theorem dX9_print_243 : decode cX9_print 243 = .ok (.iastore, 1) := by decide +kernel
theorem dX9_print_244 : decode cX9_print 244 = .ok (.iconst 0, 1) := by decide +kernel
theorem dX9_print_245 : decode cX9_print 245 = .ok (.istore 7, 2) := by decide +kernel
theorem dX9_print_247 : decode cX9_print 247 = .ok (.iload 7, 2) := by decide +kernel
theorem dX9_print_249 : decode cX9_print 249 = .ok (.iload 5, 2) := by decide +kernel
theorem dX9_print_251 : decode cX9_print 251 = .ok (.if_icmp .ge 26, 3) := by decide +kernel
theorem dX9_print_254 : decode cX9_print 254 = .ok (.aload_n 0, 1) := by decide +kernel
theorem dX9_print_255 : decode cX9_print 255 = .ok (.getfield 68, 3) := by decide +kernel
theorem dX9_print_258 : decode cX9_print 258 = .ok (.bipush 32, 2) := by decide +kernel
theorem dX9_print_260 : decode cX9_print 260 = .ok (.iload_n 3, 1) := by decide +kernel
theorem dX9_print_261 : decode cX9_print 261 = .ok (.imul, 1) := by decide +kernel
theorem dX9_print_262 : decode cX9_print 262 = .ok (.iload 7, 2) := by decide +kernel
theorem dX9_print_264 : decode cX9_print 264 = .ok (.iadd, 1) := by decide +kernel
theorem dX9_print_265 : decode cX9_print 265 = .ok (.aload 4, 2) := by decide +kernel
theorem dX9_print_267 : decode cX9_print 267 = .ok (.iload 7, 2) := by decide +kernel
theorem dX9_print_269 : decode cX9_print 269 = .ok (.iaload, 1) := by decide +kernel
theorem dX9_print_270 : decode cX9_print 270 = .ok (.iastore, 1) := by decide +kernel
theorem dX9_print_271 : decode cX9_print 271 = .ok (.iinc 7 1, 3) := by decide +kernel
theorem dX9_print_274 : decode cX9_print 274 = .ok (.goto (-27), 3) := by decide +kernel
theorem dX9_print_277 : decode cX9_print 277 = .ok (.iconst 0, 1) := by decide +kernel
theorem dX9_print_278 : decode cX9_print 278 = .ok (.istore 7, 2) := by decide +kernel
theorem dX9_print_280 : decode cX9_print 280 = .ok (.iload 7, 2) := by decide +kernel
theorem dX9_print_282 : decode cX9_print 282 = .ok (.bipush 32, 2) := by decide +kernel
theorem dX9_print_284 : decode cX9_print 284 = .ok (.if_icmp .ge 29, 3) := by decide +kernel
theorem dX9_print_287 : decode cX9_print 287 = .ok (.aload_n 0, 1) := by decide +kernel
theorem dX9_print_288 : decode cX9_print 288 = .ok (.getfield 75, 3) := by decide +kernel
theorem dX9_print_291 : decode cX9_print 291 = .ok (.iload 7, 2) := by decide +kernel
theorem dX9_print_293 : decode cX9_print 293 = .ok (.aload_n 0, 1) := by decide +kernel
theorem dX9_print_294 : decode cX9_print 294 = .ok (.aload_n 0, 1) := by decide +kernel
theorem dX9_print_295 : decode cX9_print 295 = .ok (.getfield 44, 3) := by decide +kernel
theorem dX9_print_298 : decode cX9_print 298 = .ok (.iload_n 1, 1) := by decide +kernel
theorem dX9_print_299 : decode cX9_print 299 = .ok (.iaload, 1) := by decide +kernel
theorem dX9_print_300 : decode cX9_print 300 = .ok (.iload_n 2, 1) := by decide +kernel
theorem dX9_print_301 : decode cX9_print 301 = .ok (.iload 7, 2) := by decide +kernel
theorem dX9_print_303 : decode cX9_print 303 = .ok (.invokevirtual 146, 3) := by decide +kernel
theorem dX9_print_306 : decode cX9_print 306 = .ok (.iastore, 1) := by decide +kernel
theorem dX9_print_307 : decode cX9_print 307 = .ok (.iinc 7 1, 3) := by decide +kernel
theorem dX9_print_310 : decode cX9_print 310 = .ok (.goto (-30), 3) := by decide +kernel
theorem dX9_print_313 : decode cX9_print 313 = .ok (.aload_n 0, 1) := by decide +kernel
theorem dX9_print_314 : decode cX9_print 314 = .ok (.iload_n 1, 1) := by decide +kernel
theorem dX9_print_315 : decode cX9_print 315 = .ok (.putfield 71, 3) := by decide +kernel
theorem dX9_print_318 : decode cX9_print 318 = .ok (.aload_n 0, 1) := by decide +kernel
theorem dX9_print_319 : decode cX9_print 319 = .ok (.iload_n 2, 1) := by decide +kernel
theorem dX9_print_320 : decode cX9_print 320 = .ok (.putfield 172, 3) := by decide +kernel
theorem dX9_print_323 : decode cX9_print 323 = .ok (.aload_n 0, 1) := by decide +kernel
theorem dX9_print_324 : decode cX9_print 324 = .ok (.aload_n 0, 1) := by decide +kernel
theorem dX9_print_325 : decode cX9_print 325 = .ok (.aload_n 0, 1) := by decide +kernel
theorem dX9_print_326 : decode cX9_print 326 = .ok (.getfield 44, 3) := by decide +kernel
theorem dX9_print_329 : decode cX9_print 329 = .ok (.iload_n 1, 1) := by decide +kernel
theorem dX9_print_330 : decode cX9_print 330 = .ok (.iaload, 1) := by decide +kernel
theorem dX9_print_331 : decode cX9_print 331 = .ok (.iload_n 2, 1) := by decide +kernel
theorem dX9_print_332 : decode cX9_print 332 = .ok (.iconst 0, 1) := by decide +kernel
theorem dX9_print_333 : decode cX9_print 333 = .ok (.invokevirtual 140, 3) := by decide +kernel
theorem dX9_print_336 : decode cX9_print 336 = .ok (.putfield 94, 3) := by decide +kernel
theorem dX9_print_339 : decode cX9_print 339 = .ok (.aload_n 0, 1) := by decide +kernel
theorem dX9_print_340 : decode cX9_print 340 = .ok (.aload_n 0, 1) := by decide +kernel
theorem dX9_print_341 : decode cX9_print 341 = .ok (.getfield 88, 3) := by decide +kernel
theorem dX9_print_344 : decode cX9_print 344 = .ok (.iconst 1, 1) := by decide +kernel
theorem dX9_print_345 : decode cX9_print 345 = .ok (.iadd, 1) := by decide +kernel
theorem dX9_print_346 : decode cX9_print 346 = .ok (.aload_n 0, 1) := by decide +kernel
theorem dX9_print_347 : decode cX9_print 347 = .ok (.getfield 47, 3) := by decide +kernel
theorem dX9_print_350 : decode cX9_print 350 = .ok (.iload_n 1, 1) := by decide +kernel
theorem dX9_print_351 : decode cX9_print 351 = .ok (.iaload, 1) := by decide +kernel
theorem dX9_print_352 : decode cX9_print 352 = .ok (.bipush 100, 2) := by decide +kernel
theorem dX9_print_354 : decode cX9_print 354 = .ok (.idiv, 1) := by decide +kernel
theorem dX9_print_355 : decode cX9_print 355 = .ok (.iadd, 1) := by decide +kernel
theorem dX9_print_356 : decode cX9_print 356 = .ok (.putfield 206, 3) := by decide +kernel
theorem dX9_print_359 : decode cX9_print 359 = .ok (.aload_n 0, 1) := by decide +kernel
theorem dX9_print_360 : decode cX9_print 360 = .ok (.getfield 206, 3) := by decide +kernel
theorem dX9_print_363 : decode cX9_print 363 = .ok (.ireturn, 1) := by decide +kernel
theorem dX9_onPress_0 : decode cX9_onPress 0 = .ok (.aload_n 0, 1) := by decide +kernel
theorem dX9_onPress_1 : decode cX9_onPress 1 = .ok (.iconst 0, 1) := by decide +kernel
theorem dX9_onPress_2 : decode cX9_onPress 2 = .ok (.putfield 78, 3) := by decide +kernel
theorem dX9_onPress_5 : decode cX9_onPress 5 = .ok (.aload_n 0, 1) := by decide +kernel
theorem dX9_onPress_6 : decode cX9_onPress 6 = .ok (.getfield 71, 3) := by decide +kernel
theorem dX9_onPress_9 : decode cX9_onPress 9 = .ok (.ireturn, 1) := by decide +kernel
theorem dX9_hours_0 : decode cX9_hours 0 = .ok (.aload_n 0, 1) := by decide +kernel
theorem dX9_hours_1 : decode cX9_hours 1 = .ok (.dup, 1) := by decide +kernel
theorem dX9_hours_2 : decode cX9_hours 2 = .ok (.getfield 88, 3) := by decide +kernel
theorem dX9_hours_5 : decode cX9_hours 5 = .ok (.iconst 1, 1) := by decide +kernel
theorem dX9_hours_6 : decode cX9_hours 6 = .ok (.iadd, 1) := by decide +kernel
theorem dX9_hours_7 : decode cX9_hours 7 = .ok (.putfield 88, 3) := by decide +kernel
theorem dX9_hours_10 : decode cX9_hours 10 = .ok (.aload_n 0, 1) := by decide +kernel
theorem dX9_hours_11 : decode cX9_hours 11 = .ok (.getfield 71, 3) := by decide +kernel
theorem dX9_hours_14 : decode cX9_hours 14 = .ok (.iconst (-1), 1) := by decide +kernel
theorem dX9_hours_15 : decode cX9_hours 15 = .ok (.if_icmp .eq 14, 3) := by decide +kernel
theorem dX9_hours_18 : decode cX9_hours 18 = .ok (.aload_n 0, 1) := by decide +kernel
theorem dX9_hours_19 : decode cX9_hours 19 = .ok (.getfield 88, 3) := by decide +kernel
theorem dX9_hours_22 : decode cX9_hours 22 = .ok (.aload_n 0, 1) := by decide +kernel
theorem dX9_hours_23 : decode cX9_hours 23 = .ok (.getfield 206, 3) := by decide +kernel
theorem dX9_hours_26 : decode cX9_hours 26 = .ok (.if_icmp .ge 5, 3) := by decide +kernel
theorem dX9_hours_29 : decode cX9_hours 29 = .ok (.iconst 0, 1) := by decide +kernel
theorem dX9_hours_30 : decode cX9_hours 30 = .ok (.ireturn, 1) := by decide +kernel
theorem dX9_hours_31 : decode cX9_hours 31 = .ok (.iconst 3, 1) := by decide +kernel
theorem dX9_hours_32 : decode cX9_hours 32 = .ok (.aload_n 0, 1) := by decide +kernel
theorem dX9_hours_33 : decode cX9_hours 33 = .ok (.getfield 71, 3) := by decide +kernel
theorem dX9_hours_36 : decode cX9_hours 36 = .ok (.imul, 1) := by decide +kernel
theorem dX9_hours_37 : decode cX9_hours 37 = .ok (.aload_n 0, 1) := by decide +kernel
theorem dX9_hours_38 : decode cX9_hours 38 = .ok (.getfield 172, 3) := by decide +kernel
theorem dX9_hours_41 : decode cX9_hours 41 = .ok (.iadd, 1) := by decide +kernel
theorem dX9_hours_42 : decode cX9_hours 42 = .ok (.istore_n 1, 1) := by decide +kernel
theorem dX9_hours_43 : decode cX9_hours 43 = .ok (.iconst 0, 1) := by decide +kernel
theorem dX9_hours_44 : decode cX9_hours 44 = .ok (.istore_n 2, 1) := by decide +kernel
theorem dX9_hours_45 : decode cX9_hours 45 = .ok (.iload_n 2, 1) := by decide +kernel
theorem dX9_hours_46 : decode cX9_hours 46 = .ok (.bipush 32, 2) := by decide +kernel
theorem dX9_hours_48 : decode cX9_hours 48 = .ok (.if_icmp .ge 26, 3) := by decide +kernel
theorem dX9_hours_51 : decode cX9_hours 51 = .ok (.aload_n 0, 1) := by decide +kernel
theorem dX9_hours_52 : decode cX9_hours 52 = .ok (.getfield 65, 3) := by decide +kernel
theorem dX9_hours_55 : decode cX9_hours 55 = .ok (.bipush 32, 2) := by decide +kernel
theorem dX9_hours_57 : decode cX9_hours 57 = .ok (.iload_n 1, 1) := by decide +kernel
theorem dX9_hours_58 : decode cX9_hours 58 = .ok (.imul, 1) := by decide +kernel
theorem dX9_hours_59 : decode cX9_hours 59 = .ok (.iload_n 2, 1) := by decide +kernel
theorem dX9_hours_60 : decode cX9_hours 60 = .ok (.iadd, 1) := by decide +kernel
theorem dX9_hours_61 : decode cX9_hours 61 = .ok (.aload_n 0, 1) := by decide +kernel
theorem dX9_hours_62 : decode cX9_hours 62 = .ok (.getfield 75, 3) := by decide +kernel
theorem dX9_hours_65 : decode cX9_hours 65 = .ok (.iload_n 2, 1) := by decide +kernel
theorem dX9_hours_66 : decode cX9_hours 66 = .ok (.iaload, 1) := by decide +kernel
theorem dX9_hours_67 : decode cX9_hours 67 = .ok (.iastore, 1) := by decide +kernel
theorem dX9_hours_68 : decode cX9_hours 68 = .ok (.iinc 2 1, 3) := by decide +kernel
theorem dX9_hours_71 : decode cX9_hours 71 = .ok (.goto (-26), 3) := by decide +kernel
theorem dX9_hours_74 : decode cX9_hours 74 = .ok (.aload_n 0, 1) := by decide +kernel
theorem dX9_hours_75 : decode cX9_hours 75 = .ok (.getfield 59, 3) := by decide +kernel
theorem dX9_hours_78 : decode cX9_hours 78 = .ok (.iload_n 1, 1) := by decide +kernel
theorem dX9_hours_79 : decode cX9_hours 79 = .ok (.dup2, 1) := by decide +kernel
theorem dX9_hours_80 : decode cX9_hours 80 = .ok (.iaload, 1) := by decide +kernel
theorem dX9_hours_81 : decode cX9_hours 81 = .ok (.iconst 1, 1) := by decide +kernel
theorem dX9_hours_82 : decode cX9_hours 82 = .ok (.iadd, 1) := by decide +kernel
theorem dX9_hours_83 : decode cX9_hours 83 = .ok (.iastore, 1) := by decide +kernel
theorem dX9_hours_84 : decode cX9_hours 84 = .ok (.aload_n 0, 1) := by decide +kernel
theorem dX9_hours_85 : decode cX9_hours 85 = .ok (.iconst (-1), 1) := by decide +kernel
theorem dX9_hours_86 : decode cX9_hours 86 = .ok (.putfield 71, 3) := by decide +kernel
theorem dX9_hours_89 : decode cX9_hours 89 = .ok (.iconst 1, 1) := by decide +kernel
theorem dX9_hours_90 : decode cX9_hours 90 = .ok (.ireturn, 1) := by decide +kernel
theorem dX9_pass_0 : decode cX9_pass 0 = .ok (.aload_n 0, 1) := by decide +kernel
theorem dX9_pass_1 : decode cX9_pass 1 = .ok (.iload_n 1, 1) := by decide +kernel
theorem dX9_pass_2 : decode cX9_pass 2 = .ok (.i2l, 1) := by decide +kernel
theorem dX9_pass_3 : decode cX9_pass 3 = .ok (.lconst 1, 1) := by decide +kernel
theorem dX9_pass_4 : decode cX9_pass 4 = .ok (.ldc2_w 209, 3) := by decide +kernel
theorem dX9_pass_7 : decode cX9_pass 7 = .ok (.invokestatic 84, 3) := by decide +kernel
theorem dX9_pass_10 : decode cX9_pass 10 = .ok (.ifCond .ne 7, 3) := by decide +kernel
theorem dX9_pass_13 : decode cX9_pass 13 = .ok (.iconst 1, 1) := by decide +kernel
theorem dX9_pass_14 : decode cX9_pass 14 = .ok (.goto 20, 3) := by decide +kernel
theorem dX9_pass_17 : decode cX9_pass 17 = .ok (.aload_n 0, 1) := by decide +kernel
theorem dX9_pass_18 : decode cX9_pass 18 = .ok (.getfield 88, 3) := by decide +kernel
theorem dX9_pass_21 : decode cX9_pass 21 = .ok (.iload_n 1, 1) := by decide +kernel
theorem dX9_pass_22 : decode cX9_pass 22 = .ok (.iadd, 1) := by decide +kernel
theorem dX9_pass_23 : decode cX9_pass 23 = .ok (.sipush 999, 3) := by decide +kernel
theorem dX9_pass_26 : decode cX9_pass 26 = .ok (.if_icmp .le 7, 3) := by decide +kernel
theorem dX9_pass_29 : decode cX9_pass 29 = .ok (.iconst 2, 1) := by decide +kernel
theorem dX9_pass_30 : decode cX9_pass 30 = .ok (.goto 4, 3) := by decide +kernel
theorem dX9_pass_33 : decode cX9_pass 33 = .ok (.iconst 0, 1) := by decide +kernel
theorem dX9_pass_34 : decode cX9_pass 34 = .ok (.putfield 78, 3) := by decide +kernel
theorem dX9_pass_37 : decode cX9_pass 37 = .ok (.aload_n 0, 1) := by decide +kernel
theorem dX9_pass_38 : decode cX9_pass 38 = .ok (.getfield 78, 3) := by decide +kernel
theorem dX9_pass_41 : decode cX9_pass 41 = .ok (.ifCond .le 5, 3) := by decide +kernel
theorem dX9_pass_44 : decode cX9_pass 44 = .ok (.iconst (-1), 1) := by decide +kernel
theorem dX9_pass_45 : decode cX9_pass 45 = .ok (.ireturn, 1) := by decide +kernel
theorem dX9_pass_46 : decode cX9_pass 46 = .ok (.iconst 0, 1) := by decide +kernel
theorem dX9_pass_47 : decode cX9_pass 47 = .ok (.istore_n 2, 1) := by decide +kernel
theorem dX9_pass_48 : decode cX9_pass 48 = .ok (.iconst 0, 1) := by decide +kernel
theorem dX9_pass_49 : decode cX9_pass 49 = .ok (.istore_n 3, 1) := by decide +kernel
theorem dX9_pass_50 : decode cX9_pass 50 = .ok (.iload_n 3, 1) := by decide +kernel
theorem dX9_pass_51 : decode cX9_pass 51 = .ok (.iload_n 1, 1) := by decide +kernel
theorem dX9_pass_52 : decode cX9_pass 52 = .ok (.if_icmp .ge 16, 3) := by decide +kernel
theorem dX9_pass_55 : decode cX9_pass 55 = .ok (.iload_n 2, 1) := by decide +kernel
theorem dX9_pass_56 : decode cX9_pass 56 = .ok (.aload_n 0, 1) := by decide +kernel
theorem dX9_pass_57 : decode cX9_pass 57 = .ok (.invokevirtual 211, 3) := by decide +kernel
theorem dX9_pass_60 : decode cX9_pass 60 = .ok (.iadd, 1) := by decide +kernel
theorem dX9_pass_61 : decode cX9_pass 61 = .ok (.istore_n 2, 1) := by decide +kernel
theorem dX9_pass_62 : decode cX9_pass 62 = .ok (.iinc 3 1, 3) := by decide +kernel
theorem dX9_pass_65 : decode cX9_pass 65 = .ok (.goto (-15), 3) := by decide +kernel
theorem dX9_pass_68 : decode cX9_pass 68 = .ok (.iload_n 2, 1) := by decide +kernel
theorem dX9_pass_69 : decode cX9_pass 69 = .ok (.ireturn, 1) := by decide +kernel
theorem dX9_hour_0 : decode cX9_hour 0 = .ok (.aload_n 0, 1) := by decide +kernel
theorem dX9_hour_1 : decode cX9_hour 1 = .ok (.iconst 0, 1) := by decide +kernel
theorem dX9_hour_2 : decode cX9_hour 2 = .ok (.putfield 78, 3) := by decide +kernel
theorem dX9_hour_5 : decode cX9_hour 5 = .ok (.aload_n 0, 1) := by decide +kernel
theorem dX9_hour_6 : decode cX9_hour 6 = .ok (.getfield 88, 3) := by decide +kernel
theorem dX9_hour_9 : decode cX9_hour 9 = .ok (.ireturn, 1) := by decide +kernel
theorem dX9_plateLength_0 : decode cX9_plateLength 0 = .ok (.aload_n 0, 1) := by decide +kernel
theorem dX9_plateLength_1 : decode cX9_plateLength 1 = .ok (.iload_n 1, 1) := by decide +kernel
theorem dX9_plateLength_2 : decode cX9_plateLength 2 = .ok (.iload_n 2, 1) := by decide +kernel
theorem dX9_plateLength_3 : decode cX9_plateLength 3 = .ok (.invokevirtual 195, 3) := by decide +kernel
theorem dX9_plateLength_6 : decode cX9_plateLength 6 = .ok (.ifCond .eq 26, 3) := by decide +kernel
theorem dX9_plateLength_9 : decode cX9_plateLength 9 = .ok (.aload_n 0, 1) := by decide +kernel
theorem dX9_plateLength_10 : decode cX9_plateLength 10 = .ok (.aload_n 0, 1) := by decide +kernel
theorem dX9_plateLength_11 : decode cX9_plateLength 11 = .ok (.getfield 62, 3) := by decide +kernel
theorem dX9_plateLength_14 : decode cX9_plateLength 14 = .ok (.iconst 3, 1) := by decide +kernel
theorem dX9_plateLength_15 : decode cX9_plateLength 15 = .ok (.iload_n 1, 1) := by decide +kernel
theorem dX9_plateLength_16 : decode cX9_plateLength 16 = .ok (.imul, 1) := by decide +kernel
theorem dX9_plateLength_17 : decode cX9_plateLength 17 = .ok (.iload_n 2, 1) := by decide +kernel
theorem dX9_plateLength_18 : decode cX9_plateLength 18 = .ok (.iadd, 1) := by decide +kernel
theorem dX9_plateLength_19 : decode cX9_plateLength 19 = .ok (.iaload, 1) := by decide +kernel
theorem dX9_plateLength_20 : decode cX9_plateLength 20 = .ok (.iconst (-1), 1) := by decide +kernel
theorem dX9_plateLength_21 : decode cX9_plateLength 21 = .ok (.if_icmp .ne 7, 3) := by decide +kernel
theorem dX9_plateLength_24 : decode cX9_plateLength 24 = .ok (.iconst 3, 1) := by decide +kernel
theorem dX9_plateLength_25 : decode cX9_plateLength 25 = .ok (.goto 4, 3) := by decide +kernel
theorem dX9_plateLength_28 : decode cX9_plateLength 28 = .ok (.iconst 0, 1) := by decide +kernel
theorem dX9_plateLength_29 : decode cX9_plateLength 29 = .ok (.putfield 78, 3) := by decide +kernel
theorem dX9_plateLength_32 : decode cX9_plateLength 32 = .ok (.aload_n 0, 1) := by decide +kernel
theorem dX9_plateLength_33 : decode cX9_plateLength 33 = .ok (.getfield 78, 3) := by decide +kernel
theorem dX9_plateLength_36 : decode cX9_plateLength 36 = .ok (.ifCond .ne 16, 3) := by decide +kernel
theorem dX9_plateLength_39 : decode cX9_plateLength 39 = .ok (.aload_n 0, 1) := by decide +kernel
theorem dX9_plateLength_40 : decode cX9_plateLength 40 = .ok (.getfield 62, 3) := by decide +kernel
theorem dX9_plateLength_43 : decode cX9_plateLength 43 = .ok (.iconst 3, 1) := by decide +kernel
theorem dX9_plateLength_44 : decode cX9_plateLength 44 = .ok (.iload_n 1, 1) := by decide +kernel
theorem dX9_plateLength_45 : decode cX9_plateLength 45 = .ok (.imul, 1) := by decide +kernel
theorem dX9_plateLength_46 : decode cX9_plateLength 46 = .ok (.iload_n 2, 1) := by decide +kernel
theorem dX9_plateLength_47 : decode cX9_plateLength 47 = .ok (.iadd, 1) := by decide +kernel
theorem dX9_plateLength_48 : decode cX9_plateLength 48 = .ok (.iaload, 1) := by decide +kernel
theorem dX9_plateLength_49 : decode cX9_plateLength 49 = .ok (.goto 4, 3) := by decide +kernel
theorem dX9_plateLength_52 : decode cX9_plateLength 52 = .ok (.iconst (-1), 1) := by decide +kernel
theorem dX9_plateLength_53 : decode cX9_plateLength 53 = .ok (.ireturn, 1) := by decide +kernel
theorem dX9_plateAt_0 : decode cX9_plateAt 0 = .ok (.aload_n 0, 1) := by decide +kernel
theorem dX9_plateAt_1 : decode cX9_plateAt 1 = .ok (.iload_n 1, 1) := by decide +kernel
theorem dX9_plateAt_2 : decode cX9_plateAt 2 = .ok (.iload_n 2, 1) := by decide +kernel
theorem dX9_plateAt_3 : decode cX9_plateAt 3 = .ok (.invokevirtual 195, 3) := by decide +kernel
theorem dX9_plateAt_6 : decode cX9_plateAt 6 = .ok (.ifCond .eq 34, 3) := by decide +kernel
theorem dX9_plateAt_9 : decode cX9_plateAt 9 = .ok (.aload_n 0, 1) := by decide +kernel
theorem dX9_plateAt_10 : decode cX9_plateAt 10 = .ok (.iload_n 3, 1) := by decide +kernel
theorem dX9_plateAt_11 : decode cX9_plateAt 11 = .ok (.i2l, 1) := by decide +kernel
theorem dX9_plateAt_12 : decode cX9_plateAt 12 = .ok (.lconst 0, 1) := by decide +kernel
theorem dX9_plateAt_13 : decode cX9_plateAt 13 = .ok (.aload_n 0, 1) := by decide +kernel
theorem dX9_plateAt_14 : decode cX9_plateAt 14 = .ok (.getfield 62, 3) := by decide +kernel
theorem dX9_plateAt_17 : decode cX9_plateAt 17 = .ok (.iconst 3, 1) := by decide +kernel
theorem dX9_plateAt_18 : decode cX9_plateAt 18 = .ok (.iload_n 1, 1) := by decide +kernel
theorem dX9_plateAt_19 : decode cX9_plateAt 19 = .ok (.imul, 1) := by decide +kernel
theorem dX9_plateAt_20 : decode cX9_plateAt 20 = .ok (.iload_n 2, 1) := by decide +kernel
theorem dX9_plateAt_21 : decode cX9_plateAt 21 = .ok (.iadd, 1) := by decide +kernel
theorem dX9_plateAt_22 : decode cX9_plateAt 22 = .ok (.iaload, 1) := by decide +kernel
theorem dX9_plateAt_23 : decode cX9_plateAt 23 = .ok (.iconst 1, 1) := by decide +kernel
theorem dX9_plateAt_24 : decode cX9_plateAt 24 = .ok (.isub, 1) := by decide +kernel
theorem dX9_plateAt_25 : decode cX9_plateAt 25 = .ok (.i2l, 1) := by decide +kernel
theorem dX9_plateAt_26 : decode cX9_plateAt 26 = .ok (.invokestatic 84, 3) := by decide +kernel
theorem dX9_plateAt_29 : decode cX9_plateAt 29 = .ok (.ifCond .eq 7, 3) := by decide +kernel
theorem dX9_plateAt_32 : decode cX9_plateAt 32 = .ok (.iconst 0, 1) := by decide +kernel
theorem dX9_plateAt_33 : decode cX9_plateAt 33 = .ok (.goto 4, 3) := by decide +kernel
theorem dX9_plateAt_36 : decode cX9_plateAt 36 = .ok (.iconst 3, 1) := by decide +kernel
theorem dX9_plateAt_37 : decode cX9_plateAt 37 = .ok (.putfield 78, 3) := by decide +kernel
theorem dX9_plateAt_40 : decode cX9_plateAt 40 = .ok (.aload_n 0, 1) := by decide +kernel
theorem dX9_plateAt_41 : decode cX9_plateAt 41 = .ok (.getfield 78, 3) := by decide +kernel
theorem dX9_plateAt_44 : decode cX9_plateAt 44 = .ok (.ifCond .ne 21, 3) := by decide +kernel
theorem dX9_plateAt_47 : decode cX9_plateAt 47 = .ok (.aload_n 0, 1) := by decide +kernel
theorem dX9_plateAt_48 : decode cX9_plateAt 48 = .ok (.getfield 68, 3) := by decide +kernel
theorem dX9_plateAt_51 : decode cX9_plateAt 51 = .ok (.bipush 32, 2) := by decide +kernel
theorem dX9_plateAt_53 : decode cX9_plateAt 53 = .ok (.iconst 3, 1) := by decide +kernel
theorem dX9_plateAt_54 : decode cX9_plateAt 54 = .ok (.iload_n 1, 1) := by decide +kernel
theorem dX9_plateAt_55 : decode cX9_plateAt 55 = .ok (.imul, 1) := by decide +kernel
theorem dX9_plateAt_56 : decode cX9_plateAt 56 = .ok (.iload_n 2, 1) := by decide +kernel
theorem dX9_plateAt_57 : decode cX9_plateAt 57 = .ok (.iadd, 1) := by decide +kernel
theorem dX9_plateAt_58 : decode cX9_plateAt 58 = .ok (.imul, 1) := by decide +kernel
theorem dX9_plateAt_59 : decode cX9_plateAt 59 = .ok (.iload_n 3, 1) := by decide +kernel
theorem dX9_plateAt_60 : decode cX9_plateAt 60 = .ok (.iadd, 1) := by decide +kernel
theorem dX9_plateAt_61 : decode cX9_plateAt 61 = .ok (.iaload, 1) := by decide +kernel
theorem dX9_plateAt_62 : decode cX9_plateAt 62 = .ok (.goto 4, 3) := by decide +kernel
theorem dX9_plateAt_65 : decode cX9_plateAt 65 = .ok (.iconst (-1), 1) := by decide +kernel
theorem dX9_plateAt_66 : decode cX9_plateAt 66 = .ok (.ireturn, 1) := by decide +kernel
theorem dX9_platesFor_0 : decode cX9_platesFor 0 = .ok (.aload_n 0, 1) := by decide +kernel
theorem dX9_platesFor_1 : decode cX9_platesFor 1 = .ok (.iload_n 1, 1) := by decide +kernel
theorem dX9_platesFor_2 : decode cX9_platesFor 2 = .ok (.invokevirtual 192, 3) := by decide +kernel
theorem dX9_platesFor_5 : decode cX9_platesFor 5 = .ok (.ifCond .eq 12, 3) := by decide +kernel
theorem dX9_platesFor_8 : decode cX9_platesFor 8 = .ok (.aload_n 0, 1) := by decide +kernel
theorem dX9_platesFor_9 : decode cX9_platesFor 9 = .ok (.getfield 56, 3) := by decide +kernel
theorem dX9_platesFor_12 : decode cX9_platesFor 12 = .ok (.iload_n 1, 1) := by decide +kernel
theorem dX9_platesFor_13 : decode cX9_platesFor 13 = .ok (.iaload, 1) := by decide +kernel
theorem dX9_platesFor_14 : decode cX9_platesFor 14 = .ok (.goto 4, 3) := by decide +kernel
theorem dX9_platesFor_17 : decode cX9_platesFor 17 = .ok (.iconst (-1), 1) := by decide +kernel
theorem dX9_platesFor_18 : decode cX9_platesFor 18 = .ok (.ireturn, 1) := by decide +kernel
theorem dX9_wasted_0 : decode cX9_wasted 0 = .ok (.aload_n 0, 1) := by decide +kernel
theorem dX9_wasted_1 : decode cX9_wasted 1 = .ok (.iload_n 1, 1) := by decide +kernel
theorem dX9_wasted_2 : decode cX9_wasted 2 = .ok (.invokevirtual 192, 3) := by decide +kernel
theorem dX9_wasted_5 : decode cX9_wasted 5 = .ok (.ifCond .eq 7, 3) := by decide +kernel
theorem dX9_wasted_8 : decode cX9_wasted 8 = .ok (.iconst 0, 1) := by decide +kernel
theorem dX9_wasted_9 : decode cX9_wasted 9 = .ok (.goto 4, 3) := by decide +kernel
theorem dX9_wasted_12 : decode cX9_wasted 12 = .ok (.iconst (-1), 1) := by decide +kernel
theorem dX9_wasted_13 : decode cX9_wasted 13 = .ok (.istore_n 2, 1) := by decide +kernel
theorem dX9_wasted_14 : decode cX9_wasted 14 = .ok (.iconst 0, 1) := by decide +kernel
theorem dX9_wasted_15 : decode cX9_wasted 15 = .ok (.istore_n 3, 1) := by decide +kernel
theorem dX9_wasted_16 : decode cX9_wasted 16 = .ok (.iload_n 3, 1) := by decide +kernel
theorem dX9_wasted_17 : decode cX9_wasted 17 = .ok (.iconst 3, 1) := by decide +kernel
theorem dX9_wasted_18 : decode cX9_wasted 18 = .ok (.if_icmp .ge 52, 3) := by decide +kernel
theorem dX9_wasted_21 : decode cX9_wasted 21 = .ok (.aload_n 0, 1) := by decide +kernel
theorem dX9_wasted_22 : decode cX9_wasted 22 = .ok (.getfield 78, 3) := by decide +kernel
theorem dX9_wasted_25 : decode cX9_wasted 25 = .ok (.ifCond .ne 45, 3) := by decide +kernel
theorem dX9_wasted_28 : decode cX9_wasted 28 = .ok (.aload_n 0, 1) := by decide +kernel
theorem dX9_wasted_29 : decode cX9_wasted 29 = .ok (.getfield 59, 3) := by decide +kernel
theorem dX9_wasted_32 : decode cX9_wasted 32 = .ok (.iconst 3, 1) := by decide +kernel
theorem dX9_wasted_33 : decode cX9_wasted 33 = .ok (.iload_n 1, 1) := by decide +kernel
theorem dX9_wasted_34 : decode cX9_wasted 34 = .ok (.imul, 1) := by decide +kernel
theorem dX9_wasted_35 : decode cX9_wasted 35 = .ok (.iload_n 3, 1) := by decide +kernel
theorem dX9_wasted_36 : decode cX9_wasted 36 = .ok (.iadd, 1) := by decide +kernel
theorem dX9_wasted_37 : decode cX9_wasted 37 = .ok (.iaload, 1) := by decide +kernel
theorem dX9_wasted_38 : decode cX9_wasted 38 = .ok (.istore 4, 2) := by decide +kernel
theorem dX9_wasted_40 : decode cX9_wasted 40 = .ok (.iload_n 2, 1) := by decide +kernel
theorem dX9_wasted_41 : decode cX9_wasted 41 = .ok (.iload 4, 2) := by decide +kernel
theorem dX9_wasted_43 : decode cX9_wasted 43 = .ok (.iconst 1, 1) := by decide +kernel
theorem dX9_wasted_44 : decode cX9_wasted 44 = .ok (.if_icmp .le 17, 3) := by decide +kernel
theorem dX9_wasted_47 : decode cX9_wasted 47 = .ok (.aload_n 0, 1) := by decide +kernel
theorem dX9_wasted_48 : decode cX9_wasted 48 = .ok (.getfield 47, 3) := by decide +kernel
theorem dX9_wasted_51 : decode cX9_wasted 51 = .ok (.iload_n 1, 1) := by decide +kernel
theorem dX9_wasted_52 : decode cX9_wasted 52 = .ok (.iaload, 1) := by decide +kernel
theorem dX9_wasted_53 : decode cX9_wasted 53 = .ok (.iload 4, 2) := by decide +kernel
theorem dX9_wasted_55 : decode cX9_wasted 55 = .ok (.iconst 1, 1) := by decide +kernel
theorem dX9_wasted_56 : decode cX9_wasted 56 = .ok (.isub, 1) := by decide +kernel
theorem dX9_wasted_57 : decode cX9_wasted 57 = .ok (.imul, 1) := by decide +kernel
theorem dX9_wasted_58 : decode cX9_wasted 58 = .ok (.goto 4, 3) := by decide +kernel
theorem dX9_wasted_61 : decode cX9_wasted 61 = .ok (.iconst 0, 1) := by decide +kernel
theorem dX9_wasted_62 : decode cX9_wasted 62 = .ok (.iadd, 1) := by decide +kernel
theorem dX9_wasted_63 : decode cX9_wasted 63 = .ok (.istore_n 2, 1) := by decide +kernel
theorem dX9_wasted_64 : decode cX9_wasted 64 = .ok (.iinc 3 1, 3) := by decide +kernel
theorem dX9_wasted_67 : decode cX9_wasted 67 = .ok (.goto (-51), 3) := by decide +kernel
theorem dX9_wasted_70 : decode cX9_wasted 70 = .ok (.iload_n 2, 1) := by decide +kernel
theorem dX9_wasted_71 : decode cX9_wasted 71 = .ok (.ireturn, 1) := by decide +kernel
theorem dX9_cost_0 : decode cX9_cost 0 = .ok (.aload_n 0, 1) := by decide +kernel
theorem dX9_cost_1 : decode cX9_cost 1 = .ok (.iload_n 1, 1) := by decide +kernel
theorem dX9_cost_2 : decode cX9_cost 2 = .ok (.invokevirtual 192, 3) := by decide +kernel
theorem dX9_cost_5 : decode cX9_cost 5 = .ok (.ifCond .eq 29, 3) := by decide +kernel
theorem dX9_cost_8 : decode cX9_cost 8 = .ok (.ldc2_w 214, 3) := by decide +kernel
theorem dX9_cost_11 : decode cX9_cost 11 = .ok (.aload_n 0, 1) := by decide +kernel
theorem dX9_cost_12 : decode cX9_cost 12 = .ok (.getfield 53, 3) := by decide +kernel
theorem dX9_cost_15 : decode cX9_cost 15 = .ok (.iload_n 1, 1) := by decide +kernel
theorem dX9_cost_16 : decode cX9_cost 16 = .ok (.iaload, 1) := by decide +kernel
theorem dX9_cost_17 : decode cX9_cost 17 = .ok (.i2l, 1) := by decide +kernel
theorem dX9_cost_18 : decode cX9_cost 18 = .ok (.lmul, 1) := by decide +kernel
theorem dX9_cost_19 : decode cX9_cost 19 = .ok (.ldc2_w 216, 3) := by decide +kernel
theorem dX9_cost_22 : decode cX9_cost 22 = .ok (.aload_n 0, 1) := by decide +kernel
theorem dX9_cost_23 : decode cX9_cost 23 = .ok (.getfield 56, 3) := by decide +kernel
theorem dX9_cost_26 : decode cX9_cost 26 = .ok (.iload_n 1, 1) := by decide +kernel
theorem dX9_cost_27 : decode cX9_cost 27 = .ok (.iaload, 1) := by decide +kernel
theorem dX9_cost_28 : decode cX9_cost 28 = .ok (.i2l, 1) := by decide +kernel
theorem dX9_cost_29 : decode cX9_cost 29 = .ok (.lmul, 1) := by decide +kernel
theorem dX9_cost_30 : decode cX9_cost 30 = .ok (.ladd, 1) := by decide +kernel
theorem dX9_cost_31 : decode cX9_cost 31 = .ok (.goto 6, 3) := by decide +kernel
theorem dX9_cost_34 : decode cX9_cost 34 = .ok (.ldc2_w 218, 3) := by decide +kernel
theorem dX9_cost_37 : decode cX9_cost 37 = .ok (.lreturn, 1) := by decide +kernel
theorem dX9_goodShare_0 : decode cX9_goodShare 0 = .ok (.iconst 0, 1) := by decide +kernel
theorem dX9_goodShare_1 : decode cX9_goodShare 1 = .ok (.istore_n 1, 1) := by decide +kernel
theorem dX9_goodShare_2 : decode cX9_goodShare 2 = .ok (.iconst 0, 1) := by decide +kernel
theorem dX9_goodShare_3 : decode cX9_goodShare 3 = .ok (.istore_n 2, 1) := by decide +kernel
theorem dX9_goodShare_4 : decode cX9_goodShare 4 = .ok (.iconst 0, 1) := by decide +kernel
theorem dX9_goodShare_5 : decode cX9_goodShare 5 = .ok (.istore_n 3, 1) := by decide +kernel
theorem dX9_goodShare_6 : decode cX9_goodShare 6 = .ok (.iload_n 3, 1) := by decide +kernel
theorem dX9_goodShare_7 : decode cX9_goodShare 7 = .ok (.aload_n 0, 1) := by decide +kernel
theorem dX9_goodShare_8 : decode cX9_goodShare 8 = .ok (.getfield 165, 3) := by decide +kernel
theorem dX9_goodShare_11 : decode cX9_goodShare 11 = .ok (.if_icmp .ge 27, 3) := by decide +kernel
theorem dX9_goodShare_14 : decode cX9_goodShare 14 = .ok (.iload_n 1, 1) := by decide +kernel
theorem dX9_goodShare_15 : decode cX9_goodShare 15 = .ok (.aload_n 0, 1) := by decide +kernel
theorem dX9_goodShare_16 : decode cX9_goodShare 16 = .ok (.iload_n 3, 1) := by decide +kernel
theorem dX9_goodShare_17 : decode cX9_goodShare 17 = .ok (.bipush 112, 2) := by decide +kernel
theorem dX9_goodShare_19 : decode cX9_goodShare 19 = .ok (.invokevirtual 182, 3) := by decide +kernel
theorem dX9_goodShare_22 : decode cX9_goodShare 22 = .ok (.iadd, 1) := by decide +kernel
theorem dX9_goodShare_23 : decode cX9_goodShare 23 = .ok (.istore_n 1, 1) := by decide +kernel
theorem dX9_goodShare_24 : decode cX9_goodShare 24 = .ok (.iload_n 2, 1) := by decide +kernel
theorem dX9_goodShare_25 : decode cX9_goodShare 25 = .ok (.aload_n 0, 1) := by decide +kernel
theorem dX9_goodShare_26 : decode cX9_goodShare 26 = .ok (.iload_n 3, 1) := by decide +kernel
theorem dX9_goodShare_27 : decode cX9_goodShare 27 = .ok (.invokevirtual 175, 3) := by decide +kernel
theorem dX9_goodShare_30 : decode cX9_goodShare 30 = .ok (.iadd, 1) := by decide +kernel
theorem dX9_goodShare_31 : decode cX9_goodShare 31 = .ok (.istore_n 2, 1) := by decide +kernel
theorem dX9_goodShare_32 : decode cX9_goodShare 32 = .ok (.iinc 3 1, 3) := by decide +kernel
theorem dX9_goodShare_35 : decode cX9_goodShare 35 = .ok (.goto (-29), 3) := by decide +kernel
theorem dX9_goodShare_38 : decode cX9_goodShare 38 = .ok (.aload_n 0, 1) := by decide +kernel
theorem dX9_goodShare_39 : decode cX9_goodShare 39 = .ok (.aload_n 0, 1) := by decide +kernel
theorem dX9_goodShare_40 : decode cX9_goodShare 40 = .ok (.getfield 165, 3) := by decide +kernel
theorem dX9_goodShare_43 : decode cX9_goodShare 43 = .ok (.ifCond .ne 7, 3) := by decide +kernel
theorem dX9_goodShare_46 : decode cX9_goodShare 46 = .ok (.iconst 1, 1) := by decide +kernel
theorem dX9_goodShare_47 : decode cX9_goodShare 47 = .ok (.goto 4, 3) := by decide +kernel
theorem dX9_goodShare_50 : decode cX9_goodShare 50 = .ok (.iconst 0, 1) := by decide +kernel
theorem dX9_goodShare_51 : decode cX9_goodShare 51 = .ok (.putfield 78, 3) := by decide +kernel
theorem dX9_goodShare_54 : decode cX9_goodShare 54 = .ok (.aload_n 0, 1) := by decide +kernel
theorem dX9_goodShare_55 : decode cX9_goodShare 55 = .ok (.getfield 78, 3) := by decide +kernel
theorem dX9_goodShare_58 : decode cX9_goodShare 58 = .ok (.ifCond .ne 11, 3) := by decide +kernel
theorem dX9_goodShare_61 : decode cX9_goodShare 61 = .ok (.iload_n 1, 1) := by decide +kernel
theorem dX9_goodShare_62 : decode cX9_goodShare 62 = .ok (.i2f, 1) := by decide +kernel
theorem dX9_goodShare_63 : decode cX9_goodShare 63 = .ok (.iload_n 2, 1) := by decide +kernel
theorem dX9_goodShare_64 : decode cX9_goodShare 64 = .ok (.i2f, 1) := by decide +kernel
theorem dX9_goodShare_65 : decode cX9_goodShare 65 = .ok (.fdiv, 1) := by decide +kernel
theorem dX9_goodShare_66 : decode cX9_goodShare 66 = .ok (.goto 4, 3) := by decide +kernel
theorem dX9_goodShare_69 : decode cX9_goodShare 69 = .ok (.fconst 0, 1) := by decide +kernel
theorem dX9_goodShare_70 : decode cX9_goodShare 70 = .ok (.freturn, 1) := by decide +kernel
theorem dX9_meanLength_0 : decode cX9_meanLength 0 = .ok (.iconst 0, 1) := by decide +kernel
theorem dX9_meanLength_1 : decode cX9_meanLength 1 = .ok (.istore_n 1, 1) := by decide +kernel
theorem dX9_meanLength_2 : decode cX9_meanLength 2 = .ok (.iconst 0, 1) := by decide +kernel
theorem dX9_meanLength_3 : decode cX9_meanLength 3 = .ok (.istore_n 2, 1) := by decide +kernel
theorem dX9_meanLength_4 : decode cX9_meanLength 4 = .ok (.iload_n 2, 1) := by decide +kernel
theorem dX9_meanLength_5 : decode cX9_meanLength 5 = .ok (.aload_n 0, 1) := by decide +kernel
theorem dX9_meanLength_6 : decode cX9_meanLength 6 = .ok (.getfield 81, 3) := by decide +kernel
theorem dX9_meanLength_9 : decode cX9_meanLength 9 = .ok (.if_icmp .ge 18, 3) := by decide +kernel
theorem dX9_meanLength_12 : decode cX9_meanLength 12 = .ok (.iload_n 1, 1) := by decide +kernel
theorem dX9_meanLength_13 : decode cX9_meanLength 13 = .ok (.aload_n 0, 1) := by decide +kernel
theorem dX9_meanLength_14 : decode cX9_meanLength 14 = .ok (.getfield 13, 3) := by decide +kernel
theorem dX9_meanLength_17 : decode cX9_meanLength 17 = .ok (.iload_n 2, 1) := by decide +kernel
theorem dX9_meanLength_18 : decode cX9_meanLength 18 = .ok (.iaload, 1) := by decide +kernel
theorem dX9_meanLength_19 : decode cX9_meanLength 19 = .ok (.iadd, 1) := by decide +kernel
theorem dX9_meanLength_20 : decode cX9_meanLength 20 = .ok (.istore_n 1, 1) := by decide +kernel
theorem dX9_meanLength_21 : decode cX9_meanLength 21 = .ok (.iinc 2 1, 3) := by decide +kernel
theorem dX9_meanLength_24 : decode cX9_meanLength 24 = .ok (.goto (-20), 3) := by decide +kernel
theorem dX9_meanLength_27 : decode cX9_meanLength 27 = .ok (.aload_n 0, 1) := by decide +kernel
theorem dX9_meanLength_28 : decode cX9_meanLength 28 = .ok (.aload_n 0, 1) := by decide +kernel
theorem dX9_meanLength_29 : decode cX9_meanLength 29 = .ok (.getfield 81, 3) := by decide +kernel
theorem dX9_meanLength_32 : decode cX9_meanLength 32 = .ok (.ifCond .ne 7, 3) := by decide +kernel
theorem dX9_meanLength_35 : decode cX9_meanLength 35 = .ok (.iconst 1, 1) := by decide +kernel
theorem dX9_meanLength_36 : decode cX9_meanLength 36 = .ok (.goto 4, 3) := by decide +kernel
theorem dX9_meanLength_39 : decode cX9_meanLength 39 = .ok (.iconst 0, 1) := by decide +kernel
theorem dX9_meanLength_40 : decode cX9_meanLength 40 = .ok (.putfield 78, 3) := by decide +kernel
theorem dX9_meanLength_43 : decode cX9_meanLength 43 = .ok (.aload_n 0, 1) := by decide +kernel
theorem dX9_meanLength_44 : decode cX9_meanLength 44 = .ok (.getfield 78, 3) := by decide +kernel
theorem dX9_meanLength_47 : decode cX9_meanLength 47 = .ok (.ifCond .ne 14, 3) := by decide +kernel
theorem dX9_meanLength_50 : decode cX9_meanLength 50 = .ok (.iload_n 1, 1) := by decide +kernel
theorem dX9_meanLength_51 : decode cX9_meanLength 51 = .ok (.i2d, 1) := by decide +kernel
theorem dX9_meanLength_52 : decode cX9_meanLength 52 = .ok (.aload_n 0, 1) := by decide +kernel
theorem dX9_meanLength_53 : decode cX9_meanLength 53 = .ok (.getfield 81, 3) := by decide +kernel
theorem dX9_meanLength_56 : decode cX9_meanLength 56 = .ok (.i2d, 1) := by decide +kernel
theorem dX9_meanLength_57 : decode cX9_meanLength 57 = .ok (.ddiv, 1) := by decide +kernel
theorem dX9_meanLength_58 : decode cX9_meanLength 58 = .ok (.goto 4, 3) := by decide +kernel
theorem dX9_meanLength_61 : decode cX9_meanLength 61 = .ok (.dconst 0, 1) := by decide +kernel
theorem dX9_meanLength_62 : decode cX9_meanLength 62 = .ok (.dreturn, 1) := by decide +kernel
theorem dJx00060_init_a7421_0 : decode cJx00060_init_a7421 0 = .ok (.aload_n 0, 1) := by decide +kernel
theorem dJx00060_init_a7421_1 : decode cJx00060_init_a7421 1 = .ok (.aload_n 1, 1) := by decide +kernel
theorem dJx00060_init_a7421_2 : decode cJx00060_init_a7421 2 = .ok (.invokespecial 7, 3) := by decide +kernel
theorem dJx00060_init_a7421_5 : decode cJx00060_init_a7421 5 = .ok (.return_, 1) := by decide +kernel
theorem dJ9_max_7cf53_0 : decode cJ9_max_7cf53 0 = .ok (.iload_n 0, 1) := by decide +kernel
theorem dJ9_max_7cf53_1 : decode cJ9_max_7cf53 1 = .ok (.iload_n 1, 1) := by decide +kernel
theorem dJ9_max_7cf53_2 : decode cJ9_max_7cf53 2 = .ok (.if_icmp .lt 7, 3) := by decide +kernel
theorem dJ9_max_7cf53_5 : decode cJ9_max_7cf53 5 = .ok (.iload_n 0, 1) := by decide +kernel
theorem dJ9_max_7cf53_6 : decode cJ9_max_7cf53 6 = .ok (.goto 4, 3) := by decide +kernel
theorem dJ9_max_7cf53_9 : decode cJ9_max_7cf53 9 = .ok (.iload_n 1, 1) := by decide +kernel
theorem dJ9_max_7cf53_10 : decode cJ9_max_7cf53 10 = .ok (.ireturn, 1) := by decide +kernel
theorem dL_addDocument_0 : decode cL_addDocument 0 = .ok (.aload_n 1, 1) := by decide +kernel
theorem dL_addDocument_1 : decode cL_addDocument 1 = .ok (.iconst 0, 1) := by decide +kernel
theorem dL_addDocument_2 : decode cL_addDocument 2 = .ok (.aload_n 0, 1) := by decide +kernel
theorem dL_addDocument_3 : decode cL_addDocument 3 = .ok (.invokevirtual 7, 3) := by decide +kernel
theorem dL_addDocument_6 : decode cL_addDocument 6 = .ok (.i2l, 1) := by decide +kernel
theorem dL_addDocument_7 : decode cL_addDocument 7 = .ok (.lastore, 1) := by decide +kernel
theorem dL_addDocument_8 : decode cL_addDocument 8 = .ok (.goto 6, 3) := by decide +kernel
theorem dL_addDocument_11 : decode cL_addDocument 11 = .ok (.astore_n 2, 1) := by decide +kernel
theorem dL_addDocument_12 : decode cL_addDocument 12 = .ok (.iconst 1, 1) := by decide +kernel
theorem dL_addDocument_13 : decode cL_addDocument 13 = .ok (.ireturn, 1) := by decide +kernel
theorem dL_addDocument_14 : decode cL_addDocument 14 = .ok (.iconst 0, 1) := by decide +kernel
theorem dL_addDocument_15 : decode cL_addDocument 15 = .ok (.ireturn, 1) := by decide +kernel
theorem dL_insert_0 : decode cL_insert 0 = .ok (.aload 4, 2) := by decide +kernel
theorem dL_insert_2 : decode cL_insert 2 = .ok (.iconst 0, 1) := by decide +kernel
theorem dL_insert_3 : decode cL_insert 3 = .ok (.aload_n 0, 1) := by decide +kernel
theorem dL_insert_4 : decode cL_insert 4 = .ok (.iload_n 1, 1) := by decide +kernel
theorem dL_insert_5 : decode cL_insert 5 = .ok (.iload_n 2, 1) := by decide +kernel
theorem dL_insert_6 : decode cL_insert 6 = .ok (.iload_n 3, 1) := by decide +kernel
theorem dL_insert_7 : decode cL_insert 7 = .ok (.invokevirtual 15, 3) := by decide +kernel
theorem dL_insert_10 : decode cL_insert 10 = .ok (.i2l, 1) := by decide +kernel
theorem dL_insert_11 : decode cL_insert 11 = .ok (.lastore, 1) := by decide +kernel
theorem dL_insert_12 : decode cL_insert 12 = .ok (.goto 23, 3) := by decide +kernel
theorem dL_insert_15 : decode cL_insert 15 = .ok (.astore 5, 2) := by decide +kernel
theorem dL_insert_17 : decode cL_insert 17 = .ok (.iconst 1, 1) := by decide +kernel
theorem dL_insert_18 : decode cL_insert 18 = .ok (.ireturn, 1) := by decide +kernel
theorem dL_insert_19 : decode cL_insert 19 = .ok (.astore 5, 2) := by decide +kernel
theorem dL_insert_21 : decode cL_insert 21 = .ok (.iconst 2, 1) := by decide +kernel
theorem dL_insert_22 : decode cL_insert 22 = .ok (.ireturn, 1) := by decide +kernel
theorem dL_insert_23 : decode cL_insert 23 = .ok (.astore 5, 2) := by decide +kernel
theorem dL_insert_25 : decode cL_insert 25 = .ok (.iconst 3, 1) := by decide +kernel
theorem dL_insert_26 : decode cL_insert 26 = .ok (.ireturn, 1) := by decide +kernel
theorem dL_insert_27 : decode cL_insert 27 = .ok (.astore 5, 2) := by decide +kernel
theorem dL_insert_29 : decode cL_insert 29 = .ok (.iconst 4, 1) := by decide +kernel
theorem dL_insert_30 : decode cL_insert 30 = .ok (.ireturn, 1) := by decide +kernel
theorem dL_insert_31 : decode cL_insert 31 = .ok (.astore 5, 2) := by decide +kernel
theorem dL_insert_33 : decode cL_insert 33 = .ok (.iconst 5, 1) := by decide +kernel
theorem dL_insert_34 : decode cL_insert 34 = .ok (.ireturn, 1) := by decide +kernel
theorem dL_insert_35 : decode cL_insert 35 = .ok (.iconst 0, 1) := by decide +kernel
theorem dL_insert_36 : decode cL_insert 36 = .ok (.ireturn, 1) := by decide +kernel
theorem dL_delete_0 : decode cL_delete 0 = .ok (.aload_n 3, 1) := by decide +kernel
theorem dL_delete_1 : decode cL_delete 1 = .ok (.iconst 0, 1) := by decide +kernel
theorem dL_delete_2 : decode cL_delete 2 = .ok (.aload_n 0, 1) := by decide +kernel
theorem dL_delete_3 : decode cL_delete 3 = .ok (.iload_n 1, 1) := by decide +kernel
theorem dL_delete_4 : decode cL_delete 4 = .ok (.iload_n 2, 1) := by decide +kernel
theorem dL_delete_5 : decode cL_delete 5 = .ok (.invokevirtual 27, 3) := by decide +kernel
theorem dL_delete_8 : decode cL_delete 8 = .ok (.i2l, 1) := by decide +kernel
theorem dL_delete_9 : decode cL_delete 9 = .ok (.lastore, 1) := by decide +kernel
theorem dL_delete_10 : decode cL_delete 10 = .ok (.goto 15, 3) := by decide +kernel
theorem dL_delete_13 : decode cL_delete 13 = .ok (.astore 4, 2) := by decide +kernel
theorem dL_delete_15 : decode cL_delete 15 = .ok (.iconst 1, 1) := by decide +kernel
theorem dL_delete_16 : decode cL_delete 16 = .ok (.ireturn, 1) := by decide +kernel
theorem dL_delete_17 : decode cL_delete 17 = .ok (.astore 4, 2) := by decide +kernel
theorem dL_delete_19 : decode cL_delete 19 = .ok (.iconst 2, 1) := by decide +kernel
theorem dL_delete_20 : decode cL_delete 20 = .ok (.ireturn, 1) := by decide +kernel
theorem dL_delete_21 : decode cL_delete 21 = .ok (.astore 4, 2) := by decide +kernel
theorem dL_delete_23 : decode cL_delete 23 = .ok (.iconst 3, 1) := by decide +kernel
theorem dL_delete_24 : decode cL_delete 24 = .ok (.ireturn, 1) := by decide +kernel
theorem dL_delete_25 : decode cL_delete 25 = .ok (.iconst 0, 1) := by decide +kernel
theorem dL_delete_26 : decode cL_delete 26 = .ok (.ireturn, 1) := by decide +kernel
theorem dL_bar_0 : decode cL_bar 0 = .ok (.aload 4, 2) := by decide +kernel
theorem dL_bar_2 : decode cL_bar 2 = .ok (.iconst 0, 1) := by decide +kernel
theorem dL_bar_3 : decode cL_bar 3 = .ok (.aload_n 0, 1) := by decide +kernel
theorem dL_bar_4 : decode cL_bar 4 = .ok (.iload_n 1, 1) := by decide +kernel
theorem dL_bar_5 : decode cL_bar 5 = .ok (.iload_n 2, 1) := by decide +kernel
theorem dL_bar_6 : decode cL_bar 6 = .ok (.iload_n 3, 1) := by decide +kernel
theorem dL_bar_7 : decode cL_bar 7 = .ok (.invokevirtual 31, 3) := by decide +kernel
theorem dL_bar_10 : decode cL_bar 10 = .ok (.i2l, 1) := by decide +kernel
theorem dL_bar_11 : decode cL_bar 11 = .ok (.lastore, 1) := by decide +kernel
theorem dL_bar_12 : decode cL_bar 12 = .ok (.goto 11, 3) := by decide +kernel
theorem dL_bar_15 : decode cL_bar 15 = .ok (.astore 5, 2) := by decide +kernel
theorem dL_bar_17 : decode cL_bar 17 = .ok (.iconst 1, 1) := by decide +kernel
theorem dL_bar_18 : decode cL_bar 18 = .ok (.ireturn, 1) := by decide +kernel
theorem dL_bar_19 : decode cL_bar 19 = .ok (.astore 5, 2) := by decide +kernel
theorem dL_bar_21 : decode cL_bar 21 = .ok (.iconst 2, 1) := by decide +kernel
theorem dL_bar_22 : decode cL_bar 22 = .ok (.ireturn, 1) := by decide +kernel
theorem dL_bar_23 : decode cL_bar 23 = .ok (.iconst 0, 1) := by decide +kernel
theorem dL_bar_24 : decode cL_bar 24 = .ok (.ireturn, 1) := by decide +kernel
theorem dL_close_0 : decode cL_close 0 = .ok (.aload_n 3, 1) := by decide +kernel
theorem dL_close_1 : decode cL_close 1 = .ok (.iconst 0, 1) := by decide +kernel
theorem dL_close_2 : decode cL_close 2 = .ok (.aload_n 0, 1) := by decide +kernel
theorem dL_close_3 : decode cL_close 3 = .ok (.iload_n 1, 1) := by decide +kernel
theorem dL_close_4 : decode cL_close 4 = .ok (.iload_n 2, 1) := by decide +kernel
theorem dL_close_5 : decode cL_close 5 = .ok (.invokevirtual 35, 3) := by decide +kernel
theorem dL_close_8 : decode cL_close 8 = .ok (.i2l, 1) := by decide +kernel
theorem dL_close_9 : decode cL_close 9 = .ok (.lastore, 1) := by decide +kernel
theorem dL_close_10 : decode cL_close 10 = .ok (.goto 11, 3) := by decide +kernel
theorem dL_close_13 : decode cL_close 13 = .ok (.astore 4, 2) := by decide +kernel
theorem dL_close_15 : decode cL_close 15 = .ok (.iconst 1, 1) := by decide +kernel
theorem dL_close_16 : decode cL_close 16 = .ok (.ireturn, 1) := by decide +kernel
theorem dL_close_17 : decode cL_close 17 = .ok (.astore 4, 2) := by decide +kernel
theorem dL_close_19 : decode cL_close 19 = .ok (.iconst 2, 1) := by decide +kernel
theorem dL_close_20 : decode cL_close 20 = .ok (.ireturn, 1) := by decide +kernel
theorem dL_close_21 : decode cL_close 21 = .ok (.iconst 0, 1) := by decide +kernel
theorem dL_close_22 : decode cL_close 22 = .ok (.ireturn, 1) := by decide +kernel
theorem dL_length_0 : decode cL_length 0 = .ok (.aload_n 2, 1) := by decide +kernel
theorem dL_length_1 : decode cL_length 1 = .ok (.iconst 0, 1) := by decide +kernel
theorem dL_length_2 : decode cL_length 2 = .ok (.aload_n 0, 1) := by decide +kernel
theorem dL_length_3 : decode cL_length 3 = .ok (.iload_n 1, 1) := by decide +kernel
theorem dL_length_4 : decode cL_length 4 = .ok (.invokevirtual 38, 3) := by decide +kernel
theorem dL_length_7 : decode cL_length 7 = .ok (.i2l, 1) := by decide +kernel
theorem dL_length_8 : decode cL_length 8 = .ok (.lastore, 1) := by decide +kernel
theorem dL_length_9 : decode cL_length 9 = .ok (.goto 6, 3) := by decide +kernel
theorem dL_length_12 : decode cL_length 12 = .ok (.astore_n 3, 1) := by decide +kernel
theorem dL_length_13 : decode cL_length 13 = .ok (.iconst 1, 1) := by decide +kernel
theorem dL_length_14 : decode cL_length 14 = .ok (.ireturn, 1) := by decide +kernel
theorem dL_length_15 : decode cL_length 15 = .ok (.iconst 0, 1) := by decide +kernel
theorem dL_length_16 : decode cL_length 16 = .ok (.ireturn, 1) := by decide +kernel
theorem dL_codeAt_0 : decode cL_codeAt 0 = .ok (.aload_n 3, 1) := by decide +kernel
theorem dL_codeAt_1 : decode cL_codeAt 1 = .ok (.iconst 0, 1) := by decide +kernel
theorem dL_codeAt_2 : decode cL_codeAt 2 = .ok (.aload_n 0, 1) := by decide +kernel
theorem dL_codeAt_3 : decode cL_codeAt 3 = .ok (.iload_n 1, 1) := by decide +kernel
theorem dL_codeAt_4 : decode cL_codeAt 4 = .ok (.iload_n 2, 1) := by decide +kernel
theorem dL_codeAt_5 : decode cL_codeAt 5 = .ok (.invokevirtual 42, 3) := by decide +kernel
theorem dL_codeAt_8 : decode cL_codeAt 8 = .ok (.i2l, 1) := by decide +kernel
theorem dL_codeAt_9 : decode cL_codeAt 9 = .ok (.lastore, 1) := by decide +kernel
theorem dL_codeAt_10 : decode cL_codeAt 10 = .ok (.goto 11, 3) := by decide +kernel
theorem dL_codeAt_13 : decode cL_codeAt 13 = .ok (.astore 4, 2) := by decide +kernel
theorem dL_codeAt_15 : decode cL_codeAt 15 = .ok (.iconst 1, 1) := by decide +kernel
theorem dL_codeAt_16 : decode cL_codeAt 16 = .ok (.ireturn, 1) := by decide +kernel
theorem dL_codeAt_17 : decode cL_codeAt 17 = .ok (.astore 4, 2) := by decide +kernel
theorem dL_codeAt_19 : decode cL_codeAt 19 = .ok (.iconst 2, 1) := by decide +kernel
theorem dL_codeAt_20 : decode cL_codeAt 20 = .ok (.ireturn, 1) := by decide +kernel
theorem dL_codeAt_21 : decode cL_codeAt 21 = .ok (.iconst 0, 1) := by decide +kernel
theorem dL_codeAt_22 : decode cL_codeAt 22 = .ok (.ireturn, 1) := by decide +kernel
theorem dL_version_0 : decode cL_version 0 = .ok (.aload_n 2, 1) := by decide +kernel
theorem dL_version_1 : decode cL_version 1 = .ok (.iconst 0, 1) := by decide +kernel
theorem dL_version_2 : decode cL_version 2 = .ok (.aload_n 0, 1) := by decide +kernel
theorem dL_version_3 : decode cL_version 3 = .ok (.iload_n 1, 1) := by decide +kernel
theorem dL_version_4 : decode cL_version 4 = .ok (.invokevirtual 45, 3) := by decide +kernel
theorem dL_version_7 : decode cL_version 7 = .ok (.i2l, 1) := by decide +kernel
theorem dL_version_8 : decode cL_version 8 = .ok (.lastore, 1) := by decide +kernel
theorem dL_version_9 : decode cL_version 9 = .ok (.goto 6, 3) := by decide +kernel
theorem dL_version_12 : decode cL_version 12 = .ok (.astore_n 3, 1) := by decide +kernel
theorem dL_version_13 : decode cL_version 13 = .ok (.iconst 1, 1) := by decide +kernel
theorem dL_version_14 : decode cL_version 14 = .ok (.ireturn, 1) := by decide +kernel
theorem dL_version_15 : decode cL_version 15 = .ok (.iconst 0, 1) := by decide +kernel
theorem dL_version_16 : decode cL_version 16 = .ok (.ireturn, 1) := by decide +kernel
theorem dL_comment_0 : decode cL_comment 0 = .ok (.aload 4, 2) := by decide +kernel
theorem dL_comment_2 : decode cL_comment 2 = .ok (.iconst 0, 1) := by decide +kernel
theorem dL_comment_3 : decode cL_comment 3 = .ok (.aload_n 0, 1) := by decide +kernel
theorem dL_comment_4 : decode cL_comment 4 = .ok (.iload_n 1, 1) := by decide +kernel
theorem dL_comment_5 : decode cL_comment 5 = .ok (.iload_n 2, 1) := by decide +kernel
theorem dL_comment_6 : decode cL_comment 6 = .ok (.iload_n 3, 1) := by decide +kernel
theorem dL_comment_7 : decode cL_comment 7 = .ok (.invokevirtual 48, 3) := by decide +kernel
theorem dL_comment_10 : decode cL_comment 10 = .ok (.i2l, 1) := by decide +kernel
theorem dL_comment_11 : decode cL_comment 11 = .ok (.lastore, 1) := by decide +kernel
theorem dL_comment_12 : decode cL_comment 12 = .ok (.goto 15, 3) := by decide +kernel
theorem dL_comment_15 : decode cL_comment 15 = .ok (.astore 5, 2) := by decide +kernel
theorem dL_comment_17 : decode cL_comment 17 = .ok (.iconst 1, 1) := by decide +kernel
theorem dL_comment_18 : decode cL_comment 18 = .ok (.ireturn, 1) := by decide +kernel
theorem dL_comment_19 : decode cL_comment 19 = .ok (.astore 5, 2) := by decide +kernel
theorem dL_comment_21 : decode cL_comment 21 = .ok (.iconst 2, 1) := by decide +kernel
theorem dL_comment_22 : decode cL_comment 22 = .ok (.ireturn, 1) := by decide +kernel
theorem dL_comment_23 : decode cL_comment 23 = .ok (.astore 5, 2) := by decide +kernel
theorem dL_comment_25 : decode cL_comment 25 = .ok (.iconst 3, 1) := by decide +kernel
theorem dL_comment_26 : decode cL_comment 26 = .ok (.ireturn, 1) := by decide +kernel
theorem dL_comment_27 : decode cL_comment 27 = .ok (.iconst 0, 1) := by decide +kernel
theorem dL_comment_28 : decode cL_comment 28 = .ok (.ireturn, 1) := by decide +kernel
theorem dL_answer_0 : decode cL_answer 0 = .ok (.aload_n 2, 1) := by decide +kernel
theorem dL_answer_1 : decode cL_answer 1 = .ok (.iconst 0, 1) := by decide +kernel
theorem dL_answer_2 : decode cL_answer 2 = .ok (.aload_n 0, 1) := by decide +kernel
theorem dL_answer_3 : decode cL_answer 3 = .ok (.iload_n 1, 1) := by decide +kernel
theorem dL_answer_4 : decode cL_answer 4 = .ok (.invokevirtual 51, 3) := by decide +kernel
theorem dL_answer_7 : decode cL_answer 7 = .ok (.i2l, 1) := by decide +kernel
theorem dL_answer_8 : decode cL_answer 8 = .ok (.lastore, 1) := by decide +kernel
theorem dL_answer_9 : decode cL_answer 9 = .ok (.goto 9, 3) := by decide +kernel
theorem dL_answer_12 : decode cL_answer 12 = .ok (.astore_n 3, 1) := by decide +kernel
theorem dL_answer_13 : decode cL_answer 13 = .ok (.iconst 1, 1) := by decide +kernel
theorem dL_answer_14 : decode cL_answer 14 = .ok (.ireturn, 1) := by decide +kernel
theorem dL_answer_15 : decode cL_answer 15 = .ok (.astore_n 3, 1) := by decide +kernel
theorem dL_answer_16 : decode cL_answer 16 = .ok (.iconst 2, 1) := by decide +kernel
theorem dL_answer_17 : decode cL_answer 17 = .ok (.ireturn, 1) := by decide +kernel
theorem dL_answer_18 : decode cL_answer 18 = .ok (.iconst 0, 1) := by decide +kernel
theorem dL_answer_19 : decode cL_answer 19 = .ok (.ireturn, 1) := by decide +kernel
theorem dL_isOpen_0 : decode cL_isOpen 0 = .ok (.aload_n 2, 1) := by decide +kernel
theorem dL_isOpen_1 : decode cL_isOpen 1 = .ok (.iconst 0, 1) := by decide +kernel
theorem dL_isOpen_2 : decode cL_isOpen 2 = .ok (.aload_n 0, 1) := by decide +kernel
theorem dL_isOpen_3 : decode cL_isOpen 3 = .ok (.iload_n 1, 1) := by decide +kernel
theorem dL_isOpen_4 : decode cL_isOpen 4 = .ok (.invokevirtual 54, 3) := by decide +kernel
theorem dL_isOpen_7 : decode cL_isOpen 7 = .ok (.ifCond .eq 7, 3) := by decide +kernel
theorem dL_isOpen_10 : decode cL_isOpen 10 = .ok (.lconst 1, 1) := by decide +kernel
theorem dL_isOpen_11 : decode cL_isOpen 11 = .ok (.goto 4, 3) := by decide +kernel
theorem dL_isOpen_14 : decode cL_isOpen 14 = .ok (.lconst 0, 1) := by decide +kernel
theorem dL_isOpen_15 : decode cL_isOpen 15 = .ok (.lastore, 1) := by decide +kernel
theorem dL_isOpen_16 : decode cL_isOpen 16 = .ok (.goto 6, 3) := by decide +kernel
theorem dL_isOpen_19 : decode cL_isOpen 19 = .ok (.astore_n 3, 1) := by decide +kernel
theorem dL_isOpen_20 : decode cL_isOpen 20 = .ok (.iconst 1, 1) := by decide +kernel
theorem dL_isOpen_21 : decode cL_isOpen 21 = .ok (.ireturn, 1) := by decide +kernel
theorem dL_isOpen_22 : decode cL_isOpen 22 = .ok (.iconst 0, 1) := by decide +kernel
theorem dL_isOpen_23 : decode cL_isOpen 23 = .ok (.ireturn, 1) := by decide +kernel
theorem dL_spanFrom_0 : decode cL_spanFrom 0 = .ok (.aload_n 2, 1) := by decide +kernel
theorem dL_spanFrom_1 : decode cL_spanFrom 1 = .ok (.iconst 0, 1) := by decide +kernel
theorem dL_spanFrom_2 : decode cL_spanFrom 2 = .ok (.aload_n 0, 1) := by decide +kernel
theorem dL_spanFrom_3 : decode cL_spanFrom 3 = .ok (.iload_n 1, 1) := by decide +kernel
theorem dL_spanFrom_4 : decode cL_spanFrom 4 = .ok (.invokevirtual 58, 3) := by decide +kernel
theorem dL_spanFrom_7 : decode cL_spanFrom 7 = .ok (.i2l, 1) := by decide +kernel
theorem dL_spanFrom_8 : decode cL_spanFrom 8 = .ok (.lastore, 1) := by decide +kernel
theorem dL_spanFrom_9 : decode cL_spanFrom 9 = .ok (.goto 9, 3) := by decide +kernel
theorem dL_spanFrom_12 : decode cL_spanFrom 12 = .ok (.astore_n 3, 1) := by decide +kernel
theorem dL_spanFrom_13 : decode cL_spanFrom 13 = .ok (.iconst 1, 1) := by decide +kernel
theorem dL_spanFrom_14 : decode cL_spanFrom 14 = .ok (.ireturn, 1) := by decide +kernel
theorem dL_spanFrom_15 : decode cL_spanFrom 15 = .ok (.astore_n 3, 1) := by decide +kernel
theorem dL_spanFrom_16 : decode cL_spanFrom 16 = .ok (.iconst 2, 1) := by decide +kernel
theorem dL_spanFrom_17 : decode cL_spanFrom 17 = .ok (.ireturn, 1) := by decide +kernel
theorem dL_spanFrom_18 : decode cL_spanFrom 18 = .ok (.iconst 0, 1) := by decide +kernel
theorem dL_spanFrom_19 : decode cL_spanFrom 19 = .ok (.ireturn, 1) := by decide +kernel
theorem dL_spanTo_0 : decode cL_spanTo 0 = .ok (.aload_n 2, 1) := by decide +kernel
theorem dL_spanTo_1 : decode cL_spanTo 1 = .ok (.iconst 0, 1) := by decide +kernel
theorem dL_spanTo_2 : decode cL_spanTo 2 = .ok (.aload_n 0, 1) := by decide +kernel
theorem dL_spanTo_3 : decode cL_spanTo 3 = .ok (.iload_n 1, 1) := by decide +kernel
theorem dL_spanTo_4 : decode cL_spanTo 4 = .ok (.invokevirtual 61, 3) := by decide +kernel
theorem dL_spanTo_7 : decode cL_spanTo 7 = .ok (.i2l, 1) := by decide +kernel
theorem dL_spanTo_8 : decode cL_spanTo 8 = .ok (.lastore, 1) := by decide +kernel
theorem dL_spanTo_9 : decode cL_spanTo 9 = .ok (.goto 9, 3) := by decide +kernel
theorem dL_spanTo_12 : decode cL_spanTo 12 = .ok (.astore_n 3, 1) := by decide +kernel
theorem dL_spanTo_13 : decode cL_spanTo 13 = .ok (.iconst 1, 1) := by decide +kernel
theorem dL_spanTo_14 : decode cL_spanTo 14 = .ok (.ireturn, 1) := by decide +kernel
theorem dL_spanTo_15 : decode cL_spanTo 15 = .ok (.astore_n 3, 1) := by decide +kernel
theorem dL_spanTo_16 : decode cL_spanTo 16 = .ok (.iconst 2, 1) := by decide +kernel
theorem dL_spanTo_17 : decode cL_spanTo 17 = .ok (.ireturn, 1) := by decide +kernel
theorem dL_spanTo_18 : decode cL_spanTo 18 = .ok (.iconst 0, 1) := by decide +kernel
theorem dL_spanTo_19 : decode cL_spanTo 19 = .ok (.ireturn, 1) := by decide +kernel
theorem dL_sign_0 : decode cL_sign 0 = .ok (.aload_n 2, 1) := by decide +kernel
theorem dL_sign_1 : decode cL_sign 1 = .ok (.iconst 0, 1) := by decide +kernel
theorem dL_sign_2 : decode cL_sign 2 = .ok (.aload_n 0, 1) := by decide +kernel
theorem dL_sign_3 : decode cL_sign 3 = .ok (.iload_n 1, 1) := by decide +kernel
theorem dL_sign_4 : decode cL_sign 4 = .ok (.invokevirtual 64, 3) := by decide +kernel
theorem dL_sign_7 : decode cL_sign 7 = .ok (.i2l, 1) := by decide +kernel
theorem dL_sign_8 : decode cL_sign 8 = .ok (.lastore, 1) := by decide +kernel
theorem dL_sign_9 : decode cL_sign 9 = .ok (.goto 9, 3) := by decide +kernel
theorem dL_sign_12 : decode cL_sign 12 = .ok (.astore_n 3, 1) := by decide +kernel
theorem dL_sign_13 : decode cL_sign 13 = .ok (.iconst 1, 1) := by decide +kernel
theorem dL_sign_14 : decode cL_sign 14 = .ok (.ireturn, 1) := by decide +kernel
theorem dL_sign_15 : decode cL_sign 15 = .ok (.astore_n 3, 1) := by decide +kernel
theorem dL_sign_16 : decode cL_sign 16 = .ok (.iconst 2, 1) := by decide +kernel
theorem dL_sign_17 : decode cL_sign 17 = .ok (.ireturn, 1) := by decide +kernel
theorem dL_sign_18 : decode cL_sign 18 = .ok (.iconst 0, 1) := by decide +kernel
theorem dL_sign_19 : decode cL_sign 19 = .ok (.ireturn, 1) := by decide +kernel
theorem dL_signed_0 : decode cL_signed 0 = .ok (.aload_n 2, 1) := by decide +kernel
theorem dL_signed_1 : decode cL_signed 1 = .ok (.iconst 0, 1) := by decide +kernel
theorem dL_signed_2 : decode cL_signed 2 = .ok (.aload_n 0, 1) := by decide +kernel
theorem dL_signed_3 : decode cL_signed 3 = .ok (.iload_n 1, 1) := by decide +kernel
theorem dL_signed_4 : decode cL_signed 4 = .ok (.invokevirtual 67, 3) := by decide +kernel
theorem dL_signed_7 : decode cL_signed 7 = .ok (.i2l, 1) := by decide +kernel
theorem dL_signed_8 : decode cL_signed 8 = .ok (.lastore, 1) := by decide +kernel
theorem dL_signed_9 : decode cL_signed 9 = .ok (.goto 9, 3) := by decide +kernel
theorem dL_signed_12 : decode cL_signed 12 = .ok (.astore_n 3, 1) := by decide +kernel
theorem dL_signed_13 : decode cL_signed 13 = .ok (.iconst 1, 1) := by decide +kernel
theorem dL_signed_14 : decode cL_signed 14 = .ok (.ireturn, 1) := by decide +kernel
theorem dL_signed_15 : decode cL_signed 15 = .ok (.astore_n 3, 1) := by decide +kernel
theorem dL_signed_16 : decode cL_signed 16 = .ok (.iconst 2, 1) := by decide +kernel
theorem dL_signed_17 : decode cL_signed 17 = .ok (.ireturn, 1) := by decide +kernel
theorem dL_signed_18 : decode cL_signed 18 = .ok (.iconst 0, 1) := by decide +kernel
theorem dL_signed_19 : decode cL_signed 19 = .ok (.ireturn, 1) := by decide +kernel
theorem dL_sheets_0 : decode cL_sheets 0 = .ok (.aload_n 2, 1) := by decide +kernel
theorem dL_sheets_1 : decode cL_sheets 1 = .ok (.iconst 0, 1) := by decide +kernel
theorem dL_sheets_2 : decode cL_sheets 2 = .ok (.aload_n 0, 1) := by decide +kernel
theorem dL_sheets_3 : decode cL_sheets 3 = .ok (.iload_n 1, 1) := by decide +kernel
theorem dL_sheets_4 : decode cL_sheets 4 = .ok (.invokevirtual 70, 3) := by decide +kernel
theorem dL_sheets_7 : decode cL_sheets 7 = .ok (.i2l, 1) := by decide +kernel
theorem dL_sheets_8 : decode cL_sheets 8 = .ok (.lastore, 1) := by decide +kernel
theorem dL_sheets_9 : decode cL_sheets 9 = .ok (.goto 9, 3) := by decide +kernel
theorem dL_sheets_12 : decode cL_sheets 12 = .ok (.astore_n 3, 1) := by decide +kernel
theorem dL_sheets_13 : decode cL_sheets 13 = .ok (.iconst 1, 1) := by decide +kernel
theorem dL_sheets_14 : decode cL_sheets 14 = .ok (.ireturn, 1) := by decide +kernel
theorem dL_sheets_15 : decode cL_sheets 15 = .ok (.astore_n 3, 1) := by decide +kernel
theorem dL_sheets_16 : decode cL_sheets 16 = .ok (.iconst 2, 1) := by decide +kernel
theorem dL_sheets_17 : decode cL_sheets 17 = .ok (.ireturn, 1) := by decide +kernel
theorem dL_sheets_18 : decode cL_sheets 18 = .ok (.iconst 0, 1) := by decide +kernel
theorem dL_sheets_19 : decode cL_sheets 19 = .ok (.ireturn, 1) := by decide +kernel
theorem dL_pageOn_0 : decode cL_pageOn 0 = .ok (.aload 4, 2) := by decide +kernel
theorem dL_pageOn_2 : decode cL_pageOn 2 = .ok (.iconst 0, 1) := by decide +kernel
theorem dL_pageOn_3 : decode cL_pageOn 3 = .ok (.aload_n 0, 1) := by decide +kernel
theorem dL_pageOn_4 : decode cL_pageOn 4 = .ok (.iload_n 1, 1) := by decide +kernel
theorem dL_pageOn_5 : decode cL_pageOn 5 = .ok (.iload_n 2, 1) := by decide +kernel
theorem dL_pageOn_6 : decode cL_pageOn 6 = .ok (.iload_n 3, 1) := by decide +kernel
theorem dL_pageOn_7 : decode cL_pageOn 7 = .ok (.invokevirtual 73, 3) := by decide +kernel
theorem dL_pageOn_10 : decode cL_pageOn 10 = .ok (.i2l, 1) := by decide +kernel
theorem dL_pageOn_11 : decode cL_pageOn 11 = .ok (.lastore, 1) := by decide +kernel
theorem dL_pageOn_12 : decode cL_pageOn 12 = .ok (.goto 15, 3) := by decide +kernel
theorem dL_pageOn_15 : decode cL_pageOn 15 = .ok (.astore 5, 2) := by decide +kernel
theorem dL_pageOn_17 : decode cL_pageOn 17 = .ok (.iconst 1, 1) := by decide +kernel
theorem dL_pageOn_18 : decode cL_pageOn 18 = .ok (.ireturn, 1) := by decide +kernel
theorem dL_pageOn_19 : decode cL_pageOn 19 = .ok (.astore 5, 2) := by decide +kernel
theorem dL_pageOn_21 : decode cL_pageOn 21 = .ok (.iconst 2, 1) := by decide +kernel
theorem dL_pageOn_22 : decode cL_pageOn 22 = .ok (.ireturn, 1) := by decide +kernel
theorem dL_pageOn_23 : decode cL_pageOn 23 = .ok (.astore 5, 2) := by decide +kernel
theorem dL_pageOn_25 : decode cL_pageOn 25 = .ok (.iconst 3, 1) := by decide +kernel
theorem dL_pageOn_26 : decode cL_pageOn 26 = .ok (.ireturn, 1) := by decide +kernel
theorem dL_pageOn_27 : decode cL_pageOn 27 = .ok (.iconst 0, 1) := by decide +kernel
theorem dL_pageOn_28 : decode cL_pageOn 28 = .ok (.ireturn, 1) := by decide +kernel
theorem dL_shown_0 : decode cL_shown 0 = .ok (.aload 4, 2) := by decide +kernel
theorem dL_shown_2 : decode cL_shown 2 = .ok (.iconst 0, 1) := by decide +kernel
theorem dL_shown_3 : decode cL_shown 3 = .ok (.aload_n 0, 1) := by decide +kernel
theorem dL_shown_4 : decode cL_shown 4 = .ok (.iload_n 1, 1) := by decide +kernel
theorem dL_shown_5 : decode cL_shown 5 = .ok (.iload_n 2, 1) := by decide +kernel
theorem dL_shown_6 : decode cL_shown 6 = .ok (.iload_n 3, 1) := by decide +kernel
theorem dL_shown_7 : decode cL_shown 7 = .ok (.invokevirtual 76, 3) := by decide +kernel
theorem dL_shown_10 : decode cL_shown 10 = .ok (.i2l, 1) := by decide +kernel
theorem dL_shown_11 : decode cL_shown 11 = .ok (.lastore, 1) := by decide +kernel
theorem dL_shown_12 : decode cL_shown 12 = .ok (.goto 15, 3) := by decide +kernel
theorem dL_shown_15 : decode cL_shown 15 = .ok (.astore 5, 2) := by decide +kernel
theorem dL_shown_17 : decode cL_shown 17 = .ok (.iconst 1, 1) := by decide +kernel
theorem dL_shown_18 : decode cL_shown 18 = .ok (.ireturn, 1) := by decide +kernel
theorem dL_shown_19 : decode cL_shown 19 = .ok (.astore 5, 2) := by decide +kernel
theorem dL_shown_21 : decode cL_shown 21 = .ok (.iconst 2, 1) := by decide +kernel
theorem dL_shown_22 : decode cL_shown 22 = .ok (.ireturn, 1) := by decide +kernel
theorem dL_shown_23 : decode cL_shown 23 = .ok (.astore 5, 2) := by decide +kernel
theorem dL_shown_25 : decode cL_shown 25 = .ok (.iconst 3, 1) := by decide +kernel
theorem dL_shown_26 : decode cL_shown 26 = .ok (.ireturn, 1) := by decide +kernel
theorem dL_shown_27 : decode cL_shown 27 = .ok (.iconst 0, 1) := by decide +kernel
theorem dL_shown_28 : decode cL_shown 28 = .ok (.ireturn, 1) := by decide +kernel
theorem dL_shownByLog_0 : decode cL_shownByLog 0 = .ok (.aload 4, 2) := by decide +kernel
theorem dL_shownByLog_2 : decode cL_shownByLog 2 = .ok (.iconst 0, 1) := by decide +kernel
theorem dL_shownByLog_3 : decode cL_shownByLog 3 = .ok (.aload_n 0, 1) := by decide +kernel
theorem dL_shownByLog_4 : decode cL_shownByLog 4 = .ok (.iload_n 1, 1) := by decide +kernel
theorem dL_shownByLog_5 : decode cL_shownByLog 5 = .ok (.iload_n 2, 1) := by decide +kernel
theorem dL_shownByLog_6 : decode cL_shownByLog 6 = .ok (.iload_n 3, 1) := by decide +kernel
theorem dL_shownByLog_7 : decode cL_shownByLog 7 = .ok (.invokevirtual 79, 3) := by decide +kernel
theorem dL_shownByLog_10 : decode cL_shownByLog 10 = .ok (.i2l, 1) := by decide +kernel
theorem dL_shownByLog_11 : decode cL_shownByLog 11 = .ok (.lastore, 1) := by decide +kernel
theorem dL_shownByLog_12 : decode cL_shownByLog 12 = .ok (.goto 15, 3) := by decide +kernel
theorem dL_shownByLog_15 : decode cL_shownByLog 15 = .ok (.astore 5, 2) := by decide +kernel
theorem dL_shownByLog_17 : decode cL_shownByLog 17 = .ok (.iconst 1, 1) := by decide +kernel
theorem dL_shownByLog_18 : decode cL_shownByLog 18 = .ok (.ireturn, 1) := by decide +kernel
theorem dL_shownByLog_19 : decode cL_shownByLog 19 = .ok (.astore 5, 2) := by decide +kernel
theorem dL_shownByLog_21 : decode cL_shownByLog 21 = .ok (.iconst 2, 1) := by decide +kernel
theorem dL_shownByLog_22 : decode cL_shownByLog 22 = .ok (.ireturn, 1) := by decide +kernel
theorem dL_shownByLog_23 : decode cL_shownByLog 23 = .ok (.astore 5, 2) := by decide +kernel
theorem dL_shownByLog_25 : decode cL_shownByLog 25 = .ok (.iconst 3, 1) := by decide +kernel
theorem dL_shownByLog_26 : decode cL_shownByLog 26 = .ok (.ireturn, 1) := by decide +kernel
theorem dL_shownByLog_27 : decode cL_shownByLog 27 = .ok (.iconst 0, 1) := by decide +kernel
theorem dL_shownByLog_28 : decode cL_shownByLog 28 = .ok (.ireturn, 1) := by decide +kernel
theorem dL_supply_0 : decode cL_supply 0 = .ok (.aload_n 3, 1) := by decide +kernel
theorem dL_supply_1 : decode cL_supply 1 = .ok (.iconst 0, 1) := by decide +kernel
theorem dL_supply_2 : decode cL_supply 2 = .ok (.aload_n 0, 1) := by decide +kernel
theorem dL_supply_3 : decode cL_supply 3 = .ok (.iload_n 1, 1) := by decide +kernel
theorem dL_supply_4 : decode cL_supply 4 = .ok (.iload_n 2, 1) := by decide +kernel
theorem dL_supply_5 : decode cL_supply 5 = .ok (.invokevirtual 82, 3) := by decide +kernel
theorem dL_supply_8 : decode cL_supply 8 = .ok (.i2l, 1) := by decide +kernel
theorem dL_supply_9 : decode cL_supply 9 = .ok (.lastore, 1) := by decide +kernel
theorem dL_supply_10 : decode cL_supply 10 = .ok (.goto 11, 3) := by decide +kernel
theorem dL_supply_13 : decode cL_supply 13 = .ok (.astore 4, 2) := by decide +kernel
theorem dL_supply_15 : decode cL_supply 15 = .ok (.iconst 1, 1) := by decide +kernel
theorem dL_supply_16 : decode cL_supply 16 = .ok (.ireturn, 1) := by decide +kernel
theorem dL_supply_17 : decode cL_supply 17 = .ok (.astore 4, 2) := by decide +kernel
theorem dL_supply_19 : decode cL_supply 19 = .ok (.iconst 2, 1) := by decide +kernel
theorem dL_supply_20 : decode cL_supply 20 = .ok (.ireturn, 1) := by decide +kernel
theorem dL_supply_21 : decode cL_supply 21 = .ok (.iconst 0, 1) := by decide +kernel
theorem dL_supply_22 : decode cL_supply 22 = .ok (.ireturn, 1) := by decide +kernel
theorem dL_order_0 : decode cL_order 0 = .ok (.aload 4, 2) := by decide +kernel
theorem dL_order_2 : decode cL_order 2 = .ok (.iconst 0, 1) := by decide +kernel
theorem dL_order_3 : decode cL_order 3 = .ok (.aload_n 0, 1) := by decide +kernel
theorem dL_order_4 : decode cL_order 4 = .ok (.iload_n 1, 1) := by decide +kernel
theorem dL_order_5 : decode cL_order 5 = .ok (.iload_n 2, 1) := by decide +kernel
theorem dL_order_6 : decode cL_order 6 = .ok (.iload_n 3, 1) := by decide +kernel
theorem dL_order_7 : decode cL_order 7 = .ok (.invokevirtual 85, 3) := by decide +kernel
theorem dL_order_10 : decode cL_order 10 = .ok (.i2l, 1) := by decide +kernel
theorem dL_order_11 : decode cL_order 11 = .ok (.lastore, 1) := by decide +kernel
theorem dL_order_12 : decode cL_order 12 = .ok (.goto 19, 3) := by decide +kernel
theorem dL_order_15 : decode cL_order 15 = .ok (.astore 5, 2) := by decide +kernel
theorem dL_order_17 : decode cL_order 17 = .ok (.iconst 1, 1) := by decide +kernel
theorem dL_order_18 : decode cL_order 18 = .ok (.ireturn, 1) := by decide +kernel
theorem dL_order_19 : decode cL_order 19 = .ok (.astore 5, 2) := by decide +kernel
theorem dL_order_21 : decode cL_order 21 = .ok (.iconst 2, 1) := by decide +kernel
theorem dL_order_22 : decode cL_order 22 = .ok (.ireturn, 1) := by decide +kernel
theorem dL_order_23 : decode cL_order 23 = .ok (.astore 5, 2) := by decide +kernel
theorem dL_order_25 : decode cL_order 25 = .ok (.iconst 3, 1) := by decide +kernel
theorem dL_order_26 : decode cL_order 26 = .ok (.ireturn, 1) := by decide +kernel
theorem dL_order_27 : decode cL_order 27 = .ok (.astore 5, 2) := by decide +kernel
theorem dL_order_29 : decode cL_order 29 = .ok (.iconst 4, 1) := by decide +kernel
theorem dL_order_30 : decode cL_order 30 = .ok (.ireturn, 1) := by decide +kernel
theorem dL_order_31 : decode cL_order 31 = .ok (.iconst 0, 1) := by decide +kernel
theorem dL_order_32 : decode cL_order 32 = .ok (.ireturn, 1) := by decide +kernel
theorem dL_needs_0 : decode cL_needs 0 = .ok (.aload_n 2, 1) := by decide +kernel
theorem dL_needs_1 : decode cL_needs 1 = .ok (.iconst 0, 1) := by decide +kernel
theorem dL_needs_2 : decode cL_needs 2 = .ok (.aload_n 0, 1) := by decide +kernel
theorem dL_needs_3 : decode cL_needs 3 = .ok (.iload_n 1, 1) := by decide +kernel
theorem dL_needs_4 : decode cL_needs 4 = .ok (.invokevirtual 88, 3) := by decide +kernel
theorem dL_needs_7 : decode cL_needs 7 = .ok (.i2l, 1) := by decide +kernel
theorem dL_needs_8 : decode cL_needs 8 = .ok (.lastore, 1) := by decide +kernel
theorem dL_needs_9 : decode cL_needs 9 = .ok (.goto 6, 3) := by decide +kernel
theorem dL_needs_12 : decode cL_needs 12 = .ok (.astore_n 3, 1) := by decide +kernel
theorem dL_needs_13 : decode cL_needs 13 = .ok (.iconst 1, 1) := by decide +kernel
theorem dL_needs_14 : decode cL_needs 14 = .ok (.ireturn, 1) := by decide +kernel
theorem dL_needs_15 : decode cL_needs 15 = .ok (.iconst 0, 1) := by decide +kernel
theorem dL_needs_16 : decode cL_needs 16 = .ok (.ireturn, 1) := by decide +kernel
theorem dL_stateOf_0 : decode cL_stateOf 0 = .ok (.aload_n 3, 1) := by decide +kernel
theorem dL_stateOf_1 : decode cL_stateOf 1 = .ok (.iconst 0, 1) := by decide +kernel
theorem dL_stateOf_2 : decode cL_stateOf 2 = .ok (.aload_n 0, 1) := by decide +kernel
theorem dL_stateOf_3 : decode cL_stateOf 3 = .ok (.iload_n 1, 1) := by decide +kernel
theorem dL_stateOf_4 : decode cL_stateOf 4 = .ok (.iload_n 2, 1) := by decide +kernel
theorem dL_stateOf_5 : decode cL_stateOf 5 = .ok (.invokevirtual 91, 3) := by decide +kernel
theorem dL_stateOf_8 : decode cL_stateOf 8 = .ok (.i2l, 1) := by decide +kernel
theorem dL_stateOf_9 : decode cL_stateOf 9 = .ok (.lastore, 1) := by decide +kernel
theorem dL_stateOf_10 : decode cL_stateOf 10 = .ok (.goto 11, 3) := by decide +kernel
theorem dL_stateOf_13 : decode cL_stateOf 13 = .ok (.astore 4, 2) := by decide +kernel
theorem dL_stateOf_15 : decode cL_stateOf 15 = .ok (.iconst 1, 1) := by decide +kernel
theorem dL_stateOf_16 : decode cL_stateOf 16 = .ok (.ireturn, 1) := by decide +kernel
theorem dL_stateOf_17 : decode cL_stateOf 17 = .ok (.astore 4, 2) := by decide +kernel
theorem dL_stateOf_19 : decode cL_stateOf 19 = .ok (.iconst 2, 1) := by decide +kernel
theorem dL_stateOf_20 : decode cL_stateOf 20 = .ok (.ireturn, 1) := by decide +kernel
theorem dL_stateOf_21 : decode cL_stateOf 21 = .ok (.iconst 0, 1) := by decide +kernel
theorem dL_stateOf_22 : decode cL_stateOf 22 = .ok (.ireturn, 1) := by decide +kernel
theorem dL_isDone_0 : decode cL_isDone 0 = .ok (.aload_n 2, 1) := by decide +kernel
theorem dL_isDone_1 : decode cL_isDone 1 = .ok (.iconst 0, 1) := by decide +kernel
theorem dL_isDone_2 : decode cL_isDone 2 = .ok (.aload_n 0, 1) := by decide +kernel
theorem dL_isDone_3 : decode cL_isDone 3 = .ok (.iload_n 1, 1) := by decide +kernel
theorem dL_isDone_4 : decode cL_isDone 4 = .ok (.invokevirtual 95, 3) := by decide +kernel
theorem dL_isDone_7 : decode cL_isDone 7 = .ok (.ifCond .eq 7, 3) := by decide +kernel
theorem dL_isDone_10 : decode cL_isDone 10 = .ok (.lconst 1, 1) := by decide +kernel
theorem dL_isDone_11 : decode cL_isDone 11 = .ok (.goto 4, 3) := by decide +kernel
theorem dL_isDone_14 : decode cL_isDone 14 = .ok (.lconst 0, 1) := by decide +kernel
theorem dL_isDone_15 : decode cL_isDone 15 = .ok (.lastore, 1) := by decide +kernel
theorem dL_isDone_16 : decode cL_isDone 16 = .ok (.goto 6, 3) := by decide +kernel
theorem dL_isDone_19 : decode cL_isDone 19 = .ok (.astore_n 3, 1) := by decide +kernel
theorem dL_isDone_20 : decode cL_isDone 20 = .ok (.iconst 1, 1) := by decide +kernel
theorem dL_isDone_21 : decode cL_isDone 21 = .ok (.ireturn, 1) := by decide +kernel
theorem dL_isDone_22 : decode cL_isDone 22 = .ok (.iconst 0, 1) := by decide +kernel
theorem dL_isDone_23 : decode cL_isDone 23 = .ok (.ireturn, 1) := by decide +kernel
theorem dL_lateBy_0 : decode cL_lateBy 0 = .ok (.aload_n 2, 1) := by decide +kernel
theorem dL_lateBy_1 : decode cL_lateBy 1 = .ok (.iconst 0, 1) := by decide +kernel
theorem dL_lateBy_2 : decode cL_lateBy 2 = .ok (.aload_n 0, 1) := by decide +kernel
theorem dL_lateBy_3 : decode cL_lateBy 3 = .ok (.iload_n 1, 1) := by decide +kernel
theorem dL_lateBy_4 : decode cL_lateBy 4 = .ok (.invokevirtual 98, 3) := by decide +kernel
theorem dL_lateBy_7 : decode cL_lateBy 7 = .ok (.i2l, 1) := by decide +kernel
theorem dL_lateBy_8 : decode cL_lateBy 8 = .ok (.lastore, 1) := by decide +kernel
theorem dL_lateBy_9 : decode cL_lateBy 9 = .ok (.goto 6, 3) := by decide +kernel
theorem dL_lateBy_12 : decode cL_lateBy 12 = .ok (.astore_n 3, 1) := by decide +kernel
theorem dL_lateBy_13 : decode cL_lateBy 13 = .ok (.iconst 1, 1) := by decide +kernel
theorem dL_lateBy_14 : decode cL_lateBy 14 = .ok (.ireturn, 1) := by decide +kernel
theorem dL_lateBy_15 : decode cL_lateBy 15 = .ok (.iconst 0, 1) := by decide +kernel
theorem dL_lateBy_16 : decode cL_lateBy 16 = .ok (.ireturn, 1) := by decide +kernel
theorem dL_nextOrder_0 : decode cL_nextOrder 0 = .ok (.aload_n 1, 1) := by decide +kernel
theorem dL_nextOrder_1 : decode cL_nextOrder 1 = .ok (.iconst 0, 1) := by decide +kernel
theorem dL_nextOrder_2 : decode cL_nextOrder 2 = .ok (.aload_n 0, 1) := by decide +kernel
theorem dL_nextOrder_3 : decode cL_nextOrder 3 = .ok (.invokevirtual 101, 3) := by decide +kernel
theorem dL_nextOrder_6 : decode cL_nextOrder 6 = .ok (.i2l, 1) := by decide +kernel
theorem dL_nextOrder_7 : decode cL_nextOrder 7 = .ok (.lastore, 1) := by decide +kernel
theorem dL_nextOrder_8 : decode cL_nextOrder 8 = .ok (.goto 6, 3) := by decide +kernel
theorem dL_nextOrder_11 : decode cL_nextOrder 11 = .ok (.astore_n 2, 1) := by decide +kernel
theorem dL_nextOrder_12 : decode cL_nextOrder 12 = .ok (.iconst 1, 1) := by decide +kernel
theorem dL_nextOrder_13 : decode cL_nextOrder 13 = .ok (.ireturn, 1) := by decide +kernel
theorem dL_nextOrder_14 : decode cL_nextOrder 14 = .ok (.iconst 0, 1) := by decide +kernel
theorem dL_nextOrder_15 : decode cL_nextOrder 15 = .ok (.ireturn, 1) := by decide +kernel
theorem dL_nextSheet_0 : decode cL_nextSheet 0 = .ok (.aload_n 2, 1) := by decide +kernel
theorem dL_nextSheet_1 : decode cL_nextSheet 1 = .ok (.iconst 0, 1) := by decide +kernel
theorem dL_nextSheet_2 : decode cL_nextSheet 2 = .ok (.aload_n 0, 1) := by decide +kernel
theorem dL_nextSheet_3 : decode cL_nextSheet 3 = .ok (.iload_n 1, 1) := by decide +kernel
theorem dL_nextSheet_4 : decode cL_nextSheet 4 = .ok (.invokevirtual 104, 3) := by decide +kernel
theorem dL_nextSheet_7 : decode cL_nextSheet 7 = .ok (.i2l, 1) := by decide +kernel
theorem dL_nextSheet_8 : decode cL_nextSheet 8 = .ok (.lastore, 1) := by decide +kernel
theorem dL_nextSheet_9 : decode cL_nextSheet 9 = .ok (.goto 9, 3) := by decide +kernel
theorem dL_nextSheet_12 : decode cL_nextSheet 12 = .ok (.astore_n 3, 1) := by decide +kernel
theorem dL_nextSheet_13 : decode cL_nextSheet 13 = .ok (.iconst 1, 1) := by decide +kernel
theorem dL_nextSheet_14 : decode cL_nextSheet 14 = .ok (.ireturn, 1) := by decide +kernel
theorem dL_nextSheet_15 : decode cL_nextSheet 15 = .ok (.astore_n 3, 1) := by decide +kernel
theorem dL_nextSheet_16 : decode cL_nextSheet 16 = .ok (.iconst 2, 1) := by decide +kernel
theorem dL_nextSheet_17 : decode cL_nextSheet 17 = .ok (.ireturn, 1) := by decide +kernel
theorem dL_nextSheet_18 : decode cL_nextSheet 18 = .ok (.iconst 0, 1) := by decide +kernel
theorem dL_nextSheet_19 : decode cL_nextSheet 19 = .ok (.ireturn, 1) := by decide +kernel
theorem dL_print_0 : decode cL_print 0 = .ok (.aload_n 3, 1) := by decide +kernel
theorem dL_print_1 : decode cL_print 1 = .ok (.iconst 0, 1) := by decide +kernel
theorem dL_print_2 : decode cL_print 2 = .ok (.aload_n 0, 1) := by decide +kernel
theorem dL_print_3 : decode cL_print 3 = .ok (.iload_n 1, 1) := by decide +kernel
theorem dL_print_4 : decode cL_print 4 = .ok (.iload_n 2, 1) := by decide +kernel
theorem dL_print_5 : decode cL_print 5 = .ok (.invokevirtual 107, 3) := by decide +kernel
theorem dL_print_8 : decode cL_print 8 = .ok (.i2l, 1) := by decide +kernel
theorem dL_print_9 : decode cL_print 9 = .ok (.lastore, 1) := by decide +kernel
theorem dL_print_10 : decode cL_print 10 = .ok (.goto 19, 3) := by decide +kernel
theorem dL_print_13 : decode cL_print 13 = .ok (.astore 4, 2) := by decide +kernel
theorem dL_print_15 : decode cL_print 15 = .ok (.iconst 1, 1) := by decide +kernel
theorem dL_print_16 : decode cL_print 16 = .ok (.ireturn, 1) := by decide +kernel
theorem dL_print_17 : decode cL_print 17 = .ok (.astore 4, 2) := by decide +kernel
theorem dL_print_19 : decode cL_print 19 = .ok (.iconst 2, 1) := by decide +kernel
theorem dL_print_20 : decode cL_print 20 = .ok (.ireturn, 1) := by decide +kernel
theorem dL_print_21 : decode cL_print 21 = .ok (.astore 4, 2) := by decide +kernel
theorem dL_print_23 : decode cL_print 23 = .ok (.iconst 3, 1) := by decide +kernel
theorem dL_print_24 : decode cL_print 24 = .ok (.ireturn, 1) := by decide +kernel
theorem dL_print_25 : decode cL_print 25 = .ok (.astore 4, 2) := by decide +kernel
theorem dL_print_27 : decode cL_print 27 = .ok (.iconst 4, 1) := by decide +kernel
theorem dL_print_28 : decode cL_print 28 = .ok (.ireturn, 1) := by decide +kernel
theorem dL_print_29 : decode cL_print 29 = .ok (.iconst 0, 1) := by decide +kernel
theorem dL_print_30 : decode cL_print 30 = .ok (.ireturn, 1) := by decide +kernel
theorem dL_pass_0 : decode cL_pass 0 = .ok (.aload_n 2, 1) := by decide +kernel
theorem dL_pass_1 : decode cL_pass 1 = .ok (.iconst 0, 1) := by decide +kernel
theorem dL_pass_2 : decode cL_pass 2 = .ok (.aload_n 0, 1) := by decide +kernel
theorem dL_pass_3 : decode cL_pass 3 = .ok (.iload_n 1, 1) := by decide +kernel
theorem dL_pass_4 : decode cL_pass 4 = .ok (.invokevirtual 110, 3) := by decide +kernel
theorem dL_pass_7 : decode cL_pass 7 = .ok (.i2l, 1) := by decide +kernel
theorem dL_pass_8 : decode cL_pass 8 = .ok (.lastore, 1) := by decide +kernel
theorem dL_pass_9 : decode cL_pass 9 = .ok (.goto 9, 3) := by decide +kernel
theorem dL_pass_12 : decode cL_pass 12 = .ok (.astore_n 3, 1) := by decide +kernel
theorem dL_pass_13 : decode cL_pass 13 = .ok (.iconst 1, 1) := by decide +kernel
theorem dL_pass_14 : decode cL_pass 14 = .ok (.ireturn, 1) := by decide +kernel
theorem dL_pass_15 : decode cL_pass 15 = .ok (.astore_n 3, 1) := by decide +kernel
theorem dL_pass_16 : decode cL_pass 16 = .ok (.iconst 2, 1) := by decide +kernel
theorem dL_pass_17 : decode cL_pass 17 = .ok (.ireturn, 1) := by decide +kernel
theorem dL_pass_18 : decode cL_pass 18 = .ok (.iconst 0, 1) := by decide +kernel
theorem dL_pass_19 : decode cL_pass 19 = .ok (.ireturn, 1) := by decide +kernel
theorem dL_plateLength_0 : decode cL_plateLength 0 = .ok (.aload_n 3, 1) := by decide +kernel
theorem dL_plateLength_1 : decode cL_plateLength 1 = .ok (.iconst 0, 1) := by decide +kernel
theorem dL_plateLength_2 : decode cL_plateLength 2 = .ok (.aload_n 0, 1) := by decide +kernel
theorem dL_plateLength_3 : decode cL_plateLength 3 = .ok (.iload_n 1, 1) := by decide +kernel
theorem dL_plateLength_4 : decode cL_plateLength 4 = .ok (.iload_n 2, 1) := by decide +kernel
theorem dL_plateLength_5 : decode cL_plateLength 5 = .ok (.invokevirtual 113, 3) := by decide +kernel
theorem dL_plateLength_8 : decode cL_plateLength 8 = .ok (.i2l, 1) := by decide +kernel
theorem dL_plateLength_9 : decode cL_plateLength 9 = .ok (.lastore, 1) := by decide +kernel
theorem dL_plateLength_10 : decode cL_plateLength 10 = .ok (.goto 15, 3) := by decide +kernel
theorem dL_plateLength_13 : decode cL_plateLength 13 = .ok (.astore 4, 2) := by decide +kernel
theorem dL_plateLength_15 : decode cL_plateLength 15 = .ok (.iconst 1, 1) := by decide +kernel
theorem dL_plateLength_16 : decode cL_plateLength 16 = .ok (.ireturn, 1) := by decide +kernel
theorem dL_plateLength_17 : decode cL_plateLength 17 = .ok (.astore 4, 2) := by decide +kernel
theorem dL_plateLength_19 : decode cL_plateLength 19 = .ok (.iconst 2, 1) := by decide +kernel
theorem dL_plateLength_20 : decode cL_plateLength 20 = .ok (.ireturn, 1) := by decide +kernel
theorem dL_plateLength_21 : decode cL_plateLength 21 = .ok (.astore 4, 2) := by decide +kernel
theorem dL_plateLength_23 : decode cL_plateLength 23 = .ok (.iconst 3, 1) := by decide +kernel
theorem dL_plateLength_24 : decode cL_plateLength 24 = .ok (.ireturn, 1) := by decide +kernel
theorem dL_plateLength_25 : decode cL_plateLength 25 = .ok (.iconst 0, 1) := by decide +kernel
theorem dL_plateLength_26 : decode cL_plateLength 26 = .ok (.ireturn, 1) := by decide +kernel
theorem dL_plateAt_0 : decode cL_plateAt 0 = .ok (.aload 4, 2) := by decide +kernel
theorem dL_plateAt_2 : decode cL_plateAt 2 = .ok (.iconst 0, 1) := by decide +kernel
theorem dL_plateAt_3 : decode cL_plateAt 3 = .ok (.aload_n 0, 1) := by decide +kernel
theorem dL_plateAt_4 : decode cL_plateAt 4 = .ok (.iload_n 1, 1) := by decide +kernel
theorem dL_plateAt_5 : decode cL_plateAt 5 = .ok (.iload_n 2, 1) := by decide +kernel
theorem dL_plateAt_6 : decode cL_plateAt 6 = .ok (.iload_n 3, 1) := by decide +kernel
theorem dL_plateAt_7 : decode cL_plateAt 7 = .ok (.invokevirtual 116, 3) := by decide +kernel
theorem dL_plateAt_10 : decode cL_plateAt 10 = .ok (.i2l, 1) := by decide +kernel
theorem dL_plateAt_11 : decode cL_plateAt 11 = .ok (.lastore, 1) := by decide +kernel
theorem dL_plateAt_12 : decode cL_plateAt 12 = .ok (.goto 15, 3) := by decide +kernel
theorem dL_plateAt_15 : decode cL_plateAt 15 = .ok (.astore 5, 2) := by decide +kernel
theorem dL_plateAt_17 : decode cL_plateAt 17 = .ok (.iconst 1, 1) := by decide +kernel
theorem dL_plateAt_18 : decode cL_plateAt 18 = .ok (.ireturn, 1) := by decide +kernel
theorem dL_plateAt_19 : decode cL_plateAt 19 = .ok (.astore 5, 2) := by decide +kernel
theorem dL_plateAt_21 : decode cL_plateAt 21 = .ok (.iconst 2, 1) := by decide +kernel
theorem dL_plateAt_22 : decode cL_plateAt 22 = .ok (.ireturn, 1) := by decide +kernel
theorem dL_plateAt_23 : decode cL_plateAt 23 = .ok (.astore 5, 2) := by decide +kernel
theorem dL_plateAt_25 : decode cL_plateAt 25 = .ok (.iconst 3, 1) := by decide +kernel
theorem dL_plateAt_26 : decode cL_plateAt 26 = .ok (.ireturn, 1) := by decide +kernel
theorem dL_plateAt_27 : decode cL_plateAt 27 = .ok (.iconst 0, 1) := by decide +kernel
theorem dL_plateAt_28 : decode cL_plateAt 28 = .ok (.ireturn, 1) := by decide +kernel
theorem dL_platesFor_0 : decode cL_platesFor 0 = .ok (.aload_n 2, 1) := by decide +kernel
theorem dL_platesFor_1 : decode cL_platesFor 1 = .ok (.iconst 0, 1) := by decide +kernel
theorem dL_platesFor_2 : decode cL_platesFor 2 = .ok (.aload_n 0, 1) := by decide +kernel
theorem dL_platesFor_3 : decode cL_platesFor 3 = .ok (.iload_n 1, 1) := by decide +kernel
theorem dL_platesFor_4 : decode cL_platesFor 4 = .ok (.invokevirtual 119, 3) := by decide +kernel
theorem dL_platesFor_7 : decode cL_platesFor 7 = .ok (.i2l, 1) := by decide +kernel
theorem dL_platesFor_8 : decode cL_platesFor 8 = .ok (.lastore, 1) := by decide +kernel
theorem dL_platesFor_9 : decode cL_platesFor 9 = .ok (.goto 6, 3) := by decide +kernel
theorem dL_platesFor_12 : decode cL_platesFor 12 = .ok (.astore_n 3, 1) := by decide +kernel
theorem dL_platesFor_13 : decode cL_platesFor 13 = .ok (.iconst 1, 1) := by decide +kernel
theorem dL_platesFor_14 : decode cL_platesFor 14 = .ok (.ireturn, 1) := by decide +kernel
theorem dL_platesFor_15 : decode cL_platesFor 15 = .ok (.iconst 0, 1) := by decide +kernel
theorem dL_platesFor_16 : decode cL_platesFor 16 = .ok (.ireturn, 1) := by decide +kernel
theorem dL_wasted_0 : decode cL_wasted 0 = .ok (.aload_n 2, 1) := by decide +kernel
theorem dL_wasted_1 : decode cL_wasted 1 = .ok (.iconst 0, 1) := by decide +kernel
theorem dL_wasted_2 : decode cL_wasted 2 = .ok (.aload_n 0, 1) := by decide +kernel
theorem dL_wasted_3 : decode cL_wasted 3 = .ok (.iload_n 1, 1) := by decide +kernel
theorem dL_wasted_4 : decode cL_wasted 4 = .ok (.invokevirtual 122, 3) := by decide +kernel
theorem dL_wasted_7 : decode cL_wasted 7 = .ok (.i2l, 1) := by decide +kernel
theorem dL_wasted_8 : decode cL_wasted 8 = .ok (.lastore, 1) := by decide +kernel
theorem dL_wasted_9 : decode cL_wasted 9 = .ok (.goto 6, 3) := by decide +kernel
theorem dL_wasted_12 : decode cL_wasted 12 = .ok (.astore_n 3, 1) := by decide +kernel
theorem dL_wasted_13 : decode cL_wasted 13 = .ok (.iconst 1, 1) := by decide +kernel
theorem dL_wasted_14 : decode cL_wasted 14 = .ok (.ireturn, 1) := by decide +kernel
theorem dL_wasted_15 : decode cL_wasted 15 = .ok (.iconst 0, 1) := by decide +kernel
theorem dL_wasted_16 : decode cL_wasted 16 = .ok (.ireturn, 1) := by decide +kernel
theorem dL_cost_0 : decode cL_cost 0 = .ok (.aload_n 2, 1) := by decide +kernel
theorem dL_cost_1 : decode cL_cost 1 = .ok (.iconst 0, 1) := by decide +kernel
theorem dL_cost_2 : decode cL_cost 2 = .ok (.aload_n 0, 1) := by decide +kernel
theorem dL_cost_3 : decode cL_cost 3 = .ok (.iload_n 1, 1) := by decide +kernel
theorem dL_cost_4 : decode cL_cost 4 = .ok (.invokevirtual 125, 3) := by decide +kernel
theorem dL_cost_7 : decode cL_cost 7 = .ok (.lastore, 1) := by decide +kernel
theorem dL_cost_8 : decode cL_cost 8 = .ok (.goto 6, 3) := by decide +kernel
theorem dL_cost_11 : decode cL_cost 11 = .ok (.astore_n 3, 1) := by decide +kernel
theorem dL_cost_12 : decode cL_cost 12 = .ok (.iconst 1, 1) := by decide +kernel
theorem dL_cost_13 : decode cL_cost 13 = .ok (.ireturn, 1) := by decide +kernel
theorem dL_cost_14 : decode cL_cost 14 = .ok (.iconst 0, 1) := by decide +kernel
theorem dL_cost_15 : decode cL_cost 15 = .ok (.ireturn, 1) := by decide +kernel
theorem dL_goodShare_0 : decode cL_goodShare 0 = .ok (.aload_n 1, 1) := by decide +kernel
theorem dL_goodShare_1 : decode cL_goodShare 1 = .ok (.iconst 0, 1) := by decide +kernel
theorem dL_goodShare_2 : decode cL_goodShare 2 = .ok (.aload_n 0, 1) := by decide +kernel
theorem dL_goodShare_3 : decode cL_goodShare 3 = .ok (.invokevirtual 129, 3) := by decide +kernel
theorem dL_goodShare_6 : decode cL_goodShare 6 = .ok (.f2d, 1) := by decide +kernel
theorem dL_goodShare_7 : decode cL_goodShare 7 = .ok (.dastore, 1) := by decide +kernel
theorem dL_goodShare_8 : decode cL_goodShare 8 = .ok (.goto 6, 3) := by decide +kernel
theorem dL_goodShare_11 : decode cL_goodShare 11 = .ok (.astore_n 2, 1) := by decide +kernel
theorem dL_goodShare_12 : decode cL_goodShare 12 = .ok (.iconst 1, 1) := by decide +kernel
theorem dL_goodShare_13 : decode cL_goodShare 13 = .ok (.ireturn, 1) := by decide +kernel
theorem dL_goodShare_14 : decode cL_goodShare 14 = .ok (.iconst 0, 1) := by decide +kernel
theorem dL_goodShare_15 : decode cL_goodShare 15 = .ok (.ireturn, 1) := by decide +kernel
theorem dL_meanLength_0 : decode cL_meanLength 0 = .ok (.aload_n 1, 1) := by decide +kernel
theorem dL_meanLength_1 : decode cL_meanLength 1 = .ok (.iconst 0, 1) := by decide +kernel
theorem dL_meanLength_2 : decode cL_meanLength 2 = .ok (.aload_n 0, 1) := by decide +kernel
theorem dL_meanLength_3 : decode cL_meanLength 3 = .ok (.invokevirtual 135, 3) := by decide +kernel
theorem dL_meanLength_6 : decode cL_meanLength 6 = .ok (.dastore, 1) := by decide +kernel
theorem dL_meanLength_7 : decode cL_meanLength 7 = .ok (.goto 6, 3) := by decide +kernel
theorem dL_meanLength_10 : decode cL_meanLength 10 = .ok (.astore_n 2, 1) := by decide +kernel
theorem dL_meanLength_11 : decode cL_meanLength 11 = .ok (.iconst 1, 1) := by decide +kernel
theorem dL_meanLength_12 : decode cL_meanLength 12 = .ok (.ireturn, 1) := by decide +kernel
theorem dL_meanLength_13 : decode cL_meanLength 13 = .ok (.iconst 0, 1) := by decide +kernel
theorem dL_meanLength_14 : decode cL_meanLength 14 = .ok (.ireturn, 1) := by decide +kernel
