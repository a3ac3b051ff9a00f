/-! the class's tokens -/
theorem It_X2_isFigure : zm_X2_isFigure.2.2.2.2.2 = zt_X2_isFigure := by
  unfold zm_X2_isFigure
  rfl
theorem It_X2_isLetter : zm_X2_isLetter.2.2.2.2.2 = zt_X2_isLetter := by
  unfold zm_X2_isLetter
  rfl
theorem It_X2_next : zm_X2_next.2.2.2.2.2 = zt_X2_next := by
  unfold zm_X2_next
  rfl
theorem I_X2_isFigure_0 : zin zm_X2_isFigure.2.2.2.2.2 0 = some (.iload_n 0, 1) := by rw [It_X2_isFigure]; rfl
theorem I_X2_isFigure_1 : zin zm_X2_isFigure.2.2.2.2.2 1 = some (.bipush 48, 2) := by rw [It_X2_isFigure]; rfl
theorem I_X2_isFigure_3 : zin zm_X2_isFigure.2.2.2.2.2 3 = some (.if_icmp .lt 13, 3) := by rw [It_X2_isFigure]; rfl
theorem I_X2_isFigure_6 : zin zm_X2_isFigure.2.2.2.2.2 6 = some (.iload_n 0, 1) := by rw [It_X2_isFigure]; rfl
theorem I_X2_isFigure_7 : zin zm_X2_isFigure.2.2.2.2.2 7 = some (.bipush 57, 2) := by rw [It_X2_isFigure]; rfl
theorem I_X2_isFigure_9 : zin zm_X2_isFigure.2.2.2.2.2 9 = some (.if_icmp .gt 7, 3) := by rw [It_X2_isFigure]; rfl
theorem I_X2_isFigure_12 : zin zm_X2_isFigure.2.2.2.2.2 12 = some (.iconst 1, 1) := by rw [It_X2_isFigure]; rfl
theorem I_X2_isFigure_13 : zin zm_X2_isFigure.2.2.2.2.2 13 = some (.goto 4, 3) := by rw [It_X2_isFigure]; rfl
theorem I_X2_isFigure_16 : zin zm_X2_isFigure.2.2.2.2.2 16 = some (.iconst 0, 1) := by rw [It_X2_isFigure]; rfl
theorem I_X2_isFigure_17 : zin zm_X2_isFigure.2.2.2.2.2 17 = some (.ireturn, 1) := by rw [It_X2_isFigure]; rfl
theorem I_X2_isLetter_0 : zin zm_X2_isLetter.2.2.2.2.2 0 = some (.iload_n 0, 1) := by rw [It_X2_isLetter]; rfl
theorem I_X2_isLetter_1 : zin zm_X2_isLetter.2.2.2.2.2 1 = some (.bipush 97, 2) := by rw [It_X2_isLetter]; rfl
theorem I_X2_isLetter_3 : zin zm_X2_isLetter.2.2.2.2.2 3 = some (.if_icmp .lt 13, 3) := by rw [It_X2_isLetter]; rfl
theorem I_X2_isLetter_6 : zin zm_X2_isLetter.2.2.2.2.2 6 = some (.iload_n 0, 1) := by rw [It_X2_isLetter]; rfl
theorem I_X2_isLetter_7 : zin zm_X2_isLetter.2.2.2.2.2 7 = some (.bipush 122, 2) := by rw [It_X2_isLetter]; rfl
theorem I_X2_isLetter_9 : zin zm_X2_isLetter.2.2.2.2.2 9 = some (.if_icmp .gt 7, 3) := by rw [It_X2_isLetter]; rfl
theorem I_X2_isLetter_12 : zin zm_X2_isLetter.2.2.2.2.2 12 = some (.iconst 1, 1) := by rw [It_X2_isLetter]; rfl
theorem I_X2_isLetter_13 : zin zm_X2_isLetter.2.2.2.2.2 13 = some (.goto 4, 3) := by rw [It_X2_isLetter]; rfl
theorem I_X2_isLetter_16 : zin zm_X2_isLetter.2.2.2.2.2 16 = some (.iconst 0, 1) := by rw [It_X2_isLetter]; rfl
theorem I_X2_isLetter_17 : zin zm_X2_isLetter.2.2.2.2.2 17 = some (.ireturn, 1) := by rw [It_X2_isLetter]; rfl
theorem I_X2_next_0 : zin zm_X2_next.2.2.2.2.2 0 = some (.aload_n 0, 1) := by rw [It_X2_next]; rfl
theorem I_X2_next_1 : zin zm_X2_next.2.2.2.2.2 1 = some (.getfield 25, 3) := by rw [It_X2_next]; rfl
theorem I_X2_next_4 : zin zm_X2_next.2.2.2.2.2 4 = some (.aload_n 0, 1) := by rw [It_X2_next]; rfl
theorem I_X2_next_5 : zin zm_X2_next.2.2.2.2.2 5 = some (.getfield 71, 3) := by rw [It_X2_next]; rfl
theorem I_X2_next_8 : zin zm_X2_next.2.2.2.2.2 8 = some (.if_icmp .ge 30, 3) := by rw [It_X2_next]; rfl
theorem I_X2_next_11 : zin zm_X2_next.2.2.2.2.2 11 = some (.aload_n 0, 1) := by rw [It_X2_next]; rfl
theorem I_X2_next_12 : zin zm_X2_next.2.2.2.2.2 12 = some (.getfield 9, 3) := by rw [It_X2_next]; rfl
theorem I_X2_next_15 : zin zm_X2_next.2.2.2.2.2 15 = some (.aload_n 0, 1) := by rw [It_X2_next]; rfl
theorem I_X2_next_16 : zin zm_X2_next.2.2.2.2.2 16 = some (.getfield 25, 3) := by rw [It_X2_next]; rfl
theorem I_X2_next_19 : zin zm_X2_next.2.2.2.2.2 19 = some (.baload, 1) := by rw [It_X2_next]; rfl
theorem I_X2_next_20 : zin zm_X2_next.2.2.2.2.2 20 = some (.bipush 32, 2) := by rw [It_X2_next]; rfl
theorem I_X2_next_22 : zin zm_X2_next.2.2.2.2.2 22 = some (.if_icmp .ne 16, 3) := by rw [It_X2_next]; rfl
theorem I_X2_next_25 : zin zm_X2_next.2.2.2.2.2 25 = some (.aload_n 0, 1) := by rw [It_X2_next]; rfl
theorem I_X2_next_26 : zin zm_X2_next.2.2.2.2.2 26 = some (.dup, 1) := by rw [It_X2_next]; rfl
theorem I_X2_next_27 : zin zm_X2_next.2.2.2.2.2 27 = some (.getfield 25, 3) := by rw [It_X2_next]; rfl
theorem I_X2_next_30 : zin zm_X2_next.2.2.2.2.2 30 = some (.iconst 1, 1) := by rw [It_X2_next]; rfl
theorem I_X2_next_31 : zin zm_X2_next.2.2.2.2.2 31 = some (.iadd, 1) := by rw [It_X2_next]; rfl
theorem I_X2_next_32 : zin zm_X2_next.2.2.2.2.2 32 = some (.putfield 25, 3) := by rw [It_X2_next]; rfl
theorem I_X2_next_35 : zin zm_X2_next.2.2.2.2.2 35 = some (.goto (-35), 3) := by rw [It_X2_next]; rfl
theorem I_X2_next_38 : zin zm_X2_next.2.2.2.2.2 38 = some (.aload_n 0, 1) := by rw [It_X2_next]; rfl
theorem I_X2_next_39 : zin zm_X2_next.2.2.2.2.2 39 = some (.aload_n 0, 1) := by rw [It_X2_next]; rfl
theorem I_X2_next_40 : zin zm_X2_next.2.2.2.2.2 40 = some (.getfield 25, 3) := by rw [It_X2_next]; rfl
theorem I_X2_next_43 : zin zm_X2_next.2.2.2.2.2 43 = some (.putfield 102, 3) := by rw [It_X2_next]; rfl
theorem I_X2_next_46 : zin zm_X2_next.2.2.2.2.2 46 = some (.aload_n 0, 1) := by rw [It_X2_next]; rfl
theorem I_X2_next_47 : zin zm_X2_next.2.2.2.2.2 47 = some (.iconst 0, 1) := by rw [It_X2_next]; rfl
theorem I_X2_next_48 : zin zm_X2_next.2.2.2.2.2 48 = some (.putfield 105, 3) := by rw [It_X2_next]; rfl
theorem I_X2_next_51 : zin zm_X2_next.2.2.2.2.2 51 = some (.aload_n 0, 1) := by rw [It_X2_next]; rfl
theorem I_X2_next_52 : zin zm_X2_next.2.2.2.2.2 52 = some (.getfield 25, 3) := by rw [It_X2_next]; rfl
theorem I_X2_next_55 : zin zm_X2_next.2.2.2.2.2 55 = some (.aload_n 0, 1) := by rw [It_X2_next]; rfl
theorem I_X2_next_56 : zin zm_X2_next.2.2.2.2.2 56 = some (.getfield 71, 3) := by rw [It_X2_next]; rfl
theorem I_X2_next_59 : zin zm_X2_next.2.2.2.2.2 59 = some (.if_icmp .lt 9, 3) := by rw [It_X2_next]; rfl
theorem I_X2_next_62 : zin zm_X2_next.2.2.2.2.2 62 = some (.aload_n 0, 1) := by rw [It_X2_next]; rfl
theorem I_X2_next_63 : zin zm_X2_next.2.2.2.2.2 63 = some (.iconst 0, 1) := by rw [It_X2_next]; rfl
theorem I_X2_next_64 : zin zm_X2_next.2.2.2.2.2 64 = some (.putfield 51, 3) := by rw [It_X2_next]; rfl
theorem I_X2_next_67 : zin zm_X2_next.2.2.2.2.2 67 = some (.return_, 1) := by rw [It_X2_next]; rfl
theorem I_X2_next_68 : zin zm_X2_next.2.2.2.2.2 68 = some (.aload_n 0, 1) := by rw [It_X2_next]; rfl
theorem I_X2_next_69 : zin zm_X2_next.2.2.2.2.2 69 = some (.getfield 9, 3) := by rw [It_X2_next]; rfl
theorem I_X2_next_72 : zin zm_X2_next.2.2.2.2.2 72 = some (.aload_n 0, 1) := by rw [It_X2_next]; rfl
theorem I_X2_next_73 : zin zm_X2_next.2.2.2.2.2 73 = some (.getfield 25, 3) := by rw [It_X2_next]; rfl
theorem I_X2_next_76 : zin zm_X2_next.2.2.2.2.2 76 = some (.baload, 1) := by rw [It_X2_next]; rfl
theorem I_X2_next_77 : zin zm_X2_next.2.2.2.2.2 77 = some (.istore_n 1, 1) := by rw [It_X2_next]; rfl
theorem I_X2_next_78 : zin zm_X2_next.2.2.2.2.2 78 = some (.aload_n 0, 1) := by rw [It_X2_next]; rfl
theorem I_X2_next_79 : zin zm_X2_next.2.2.2.2.2 79 = some (.dup, 1) := by rw [It_X2_next]; rfl
theorem I_X2_next_80 : zin zm_X2_next.2.2.2.2.2 80 = some (.getfield 25, 3) := by rw [It_X2_next]; rfl
theorem I_X2_next_83 : zin zm_X2_next.2.2.2.2.2 83 = some (.iconst 1, 1) := by rw [It_X2_next]; rfl
theorem I_X2_next_84 : zin zm_X2_next.2.2.2.2.2 84 = some (.iadd, 1) := by rw [It_X2_next]; rfl
theorem I_X2_next_85 : zin zm_X2_next.2.2.2.2.2 85 = some (.putfield 25, 3) := by rw [It_X2_next]; rfl
theorem I_X2_next_88 : zin zm_X2_next.2.2.2.2.2 88 = some (.iload_n 1, 1) := by rw [It_X2_next]; rfl
theorem I_X2_next_89 : zin zm_X2_next.2.2.2.2.2 89 = some (.invokestatic 121, 3) := by rw [It_X2_next]; rfl
theorem I_X2_next_92 : zin zm_X2_next.2.2.2.2.2 92 = some (.ifCond .eq 50, 3) := by rw [It_X2_next]; rfl
theorem I_X2_next_95 : zin zm_X2_next.2.2.2.2.2 95 = some (.aload_n 0, 1) := by rw [It_X2_next]; rfl
theorem I_X2_next_96 : zin zm_X2_next.2.2.2.2.2 96 = some (.getfield 25, 3) := by rw [It_X2_next]; rfl
theorem I_X2_next_99 : zin zm_X2_next.2.2.2.2.2 99 = some (.aload_n 0, 1) := by rw [It_X2_next]; rfl
theorem I_X2_next_100 : zin zm_X2_next.2.2.2.2.2 100 = some (.getfield 71, 3) := by rw [It_X2_next]; rfl
theorem I_X2_next_103 : zin zm_X2_next.2.2.2.2.2 103 = some (.if_icmp .ge 31, 3) := by rw [It_X2_next]; rfl
theorem I_X2_next_106 : zin zm_X2_next.2.2.2.2.2 106 = some (.aload_n 0, 1) := by rw [It_X2_next]; rfl
theorem I_X2_next_107 : zin zm_X2_next.2.2.2.2.2 107 = some (.getfield 9, 3) := by rw [It_X2_next]; rfl
theorem I_X2_next_110 : zin zm_X2_next.2.2.2.2.2 110 = some (.aload_n 0, 1) := by rw [It_X2_next]; rfl
theorem I_X2_next_111 : zin zm_X2_next.2.2.2.2.2 111 = some (.getfield 25, 3) := by rw [It_X2_next]; rfl
theorem I_X2_next_114 : zin zm_X2_next.2.2.2.2.2 114 = some (.baload, 1) := by rw [It_X2_next]; rfl
theorem I_X2_next_115 : zin zm_X2_next.2.2.2.2.2 115 = some (.invokestatic 121, 3) := by rw [It_X2_next]; rfl
theorem I_X2_next_118 : zin zm_X2_next.2.2.2.2.2 118 = some (.ifCond .eq 16, 3) := by rw [It_X2_next]; rfl
theorem I_X2_next_121 : zin zm_X2_next.2.2.2.2.2 121 = some (.aload_n 0, 1) := by rw [It_X2_next]; rfl
theorem I_X2_next_122 : zin zm_X2_next.2.2.2.2.2 122 = some (.dup, 1) := by rw [It_X2_next]; rfl
theorem I_X2_next_123 : zin zm_X2_next.2.2.2.2.2 123 = some (.getfield 25, 3) := by rw [It_X2_next]; rfl
theorem I_X2_next_126 : zin zm_X2_next.2.2.2.2.2 126 = some (.iconst 1, 1) := by rw [It_X2_next]; rfl
theorem I_X2_next_127 : zin zm_X2_next.2.2.2.2.2 127 = some (.iadd, 1) := by rw [It_X2_next]; rfl
theorem I_X2_next_128 : zin zm_X2_next.2.2.2.2.2 128 = some (.putfield 25, 3) := by rw [It_X2_next]; rfl
theorem I_X2_next_131 : zin zm_X2_next.2.2.2.2.2 131 = some (.goto (-36), 3) := by rw [It_X2_next]; rfl
theorem I_X2_next_134 : zin zm_X2_next.2.2.2.2.2 134 = some (.aload_n 0, 1) := by rw [It_X2_next]; rfl
theorem I_X2_next_135 : zin zm_X2_next.2.2.2.2.2 135 = some (.iconst 1, 1) := by rw [It_X2_next]; rfl
theorem I_X2_next_136 : zin zm_X2_next.2.2.2.2.2 136 = some (.putfield 51, 3) := by rw [It_X2_next]; rfl
theorem I_X2_next_139 : zin zm_X2_next.2.2.2.2.2 139 = some (.goto 121, 3) := by rw [It_X2_next]; rfl
theorem I_X2_next_142 : zin zm_X2_next.2.2.2.2.2 142 = some (.iload_n 1, 1) := by rw [It_X2_next]; rfl
theorem I_X2_next_143 : zin zm_X2_next.2.2.2.2.2 143 = some (.invokestatic 124, 3) := by rw [It_X2_next]; rfl
theorem I_X2_next_146 : zin zm_X2_next.2.2.2.2.2 146 = some (.ifCond .eq 99, 3) := by rw [It_X2_next]; rfl
theorem I_X2_next_149 : zin zm_X2_next.2.2.2.2.2 149 = some (.aload_n 0, 1) := by rw [It_X2_next]; rfl
theorem I_X2_next_150 : zin zm_X2_next.2.2.2.2.2 150 = some (.iload_n 1, 1) := by rw [It_X2_next]; rfl
theorem I_X2_next_151 : zin zm_X2_next.2.2.2.2.2 151 = some (.bipush 48, 2) := by rw [It_X2_next]; rfl
theorem I_X2_next_153 : zin zm_X2_next.2.2.2.2.2 153 = some (.isub, 1) := by rw [It_X2_next]; rfl
theorem I_X2_next_154 : zin zm_X2_next.2.2.2.2.2 154 = some (.putfield 105, 3) := by rw [It_X2_next]; rfl
theorem I_X2_next_157 : zin zm_X2_next.2.2.2.2.2 157 = some (.aload_n 0, 1) := by rw [It_X2_next]; rfl
theorem I_X2_next_158 : zin zm_X2_next.2.2.2.2.2 158 = some (.getfield 25, 3) := by rw [It_X2_next]; rfl
theorem I_X2_next_161 : zin zm_X2_next.2.2.2.2.2 161 = some (.aload_n 0, 1) := by rw [It_X2_next]; rfl
theorem I_X2_next_162 : zin zm_X2_next.2.2.2.2.2 162 = some (.getfield 71, 3) := by rw [It_X2_next]; rfl
theorem I_X2_next_165 : zin zm_X2_next.2.2.2.2.2 165 = some (.if_icmp .ge 55, 3) := by rw [It_X2_next]; rfl
theorem I_X2_next_168 : zin zm_X2_next.2.2.2.2.2 168 = some (.aload_n 0, 1) := by rw [It_X2_next]; rfl
theorem I_X2_next_169 : zin zm_X2_next.2.2.2.2.2 169 = some (.getfield 9, 3) := by rw [It_X2_next]; rfl
theorem I_X2_next_172 : zin zm_X2_next.2.2.2.2.2 172 = some (.aload_n 0, 1) := by rw [It_X2_next]; rfl
theorem I_X2_next_173 : zin zm_X2_next.2.2.2.2.2 173 = some (.getfield 25, 3) := by rw [It_X2_next]; rfl
theorem I_X2_next_176 : zin zm_X2_next.2.2.2.2.2 176 = some (.baload, 1) := by rw [It_X2_next]; rfl
theorem I_X2_next_177 : zin zm_X2_next.2.2.2.2.2 177 = some (.invokestatic 124, 3) := by rw [It_X2_next]; rfl
theorem I_X2_next_180 : zin zm_X2_next.2.2.2.2.2 180 = some (.ifCond .eq 40, 3) := by rw [It_X2_next]; rfl
theorem I_X2_next_183 : zin zm_X2_next.2.2.2.2.2 183 = some (.aload_n 0, 1) := by rw [It_X2_next]; rfl
theorem I_X2_next_184 : zin zm_X2_next.2.2.2.2.2 184 = some (.aload_n 0, 1) := by rw [It_X2_next]; rfl
theorem I_X2_next_185 : zin zm_X2_next.2.2.2.2.2 185 = some (.getfield 105, 3) := by rw [It_X2_next]; rfl
theorem I_X2_next_188 : zin zm_X2_next.2.2.2.2.2 188 = some (.bipush 10, 2) := by rw [It_X2_next]; rfl
theorem I_X2_next_190 : zin zm_X2_next.2.2.2.2.2 190 = some (.imul, 1) := by rw [It_X2_next]; rfl
theorem I_X2_next_191 : zin zm_X2_next.2.2.2.2.2 191 = some (.aload_n 0, 1) := by rw [It_X2_next]; rfl
theorem I_X2_next_192 : zin zm_X2_next.2.2.2.2.2 192 = some (.getfield 9, 3) := by rw [It_X2_next]; rfl
theorem I_X2_next_195 : zin zm_X2_next.2.2.2.2.2 195 = some (.aload_n 0, 1) := by rw [It_X2_next]; rfl
theorem I_X2_next_196 : zin zm_X2_next.2.2.2.2.2 196 = some (.getfield 25, 3) := by rw [It_X2_next]; rfl
theorem I_X2_next_199 : zin zm_X2_next.2.2.2.2.2 199 = some (.baload, 1) := by rw [It_X2_next]; rfl
theorem I_X2_next_200 : zin zm_X2_next.2.2.2.2.2 200 = some (.iadd, 1) := by rw [It_X2_next]; rfl
theorem I_X2_next_201 : zin zm_X2_next.2.2.2.2.2 201 = some (.bipush 48, 2) := by rw [It_X2_next]; rfl
theorem I_X2_next_203 : zin zm_X2_next.2.2.2.2.2 203 = some (.isub, 1) := by rw [It_X2_next]; rfl
theorem I_X2_next_204 : zin zm_X2_next.2.2.2.2.2 204 = some (.putfield 105, 3) := by rw [It_X2_next]; rfl
theorem I_X2_next_207 : zin zm_X2_next.2.2.2.2.2 207 = some (.aload_n 0, 1) := by rw [It_X2_next]; rfl
theorem I_X2_next_208 : zin zm_X2_next.2.2.2.2.2 208 = some (.dup, 1) := by rw [It_X2_next]; rfl
theorem I_X2_next_209 : zin zm_X2_next.2.2.2.2.2 209 = some (.getfield 25, 3) := by rw [It_X2_next]; rfl
theorem I_X2_next_212 : zin zm_X2_next.2.2.2.2.2 212 = some (.iconst 1, 1) := by rw [It_X2_next]; rfl
theorem I_X2_next_213 : zin zm_X2_next.2.2.2.2.2 213 = some (.iadd, 1) := by rw [It_X2_next]; rfl
theorem I_X2_next_214 : zin zm_X2_next.2.2.2.2.2 214 = some (.putfield 25, 3) := by rw [It_X2_next]; rfl
theorem I_X2_next_217 : zin zm_X2_next.2.2.2.2.2 217 = some (.goto (-60), 3) := by rw [It_X2_next]; rfl
theorem I_X2_next_220 : zin zm_X2_next.2.2.2.2.2 220 = some (.aload_n 0, 1) := by rw [It_X2_next]; rfl
theorem I_X2_next_221 : zin zm_X2_next.2.2.2.2.2 221 = some (.aload_n 0, 1) := by rw [It_X2_next]; rfl
theorem I_X2_next_222 : zin zm_X2_next.2.2.2.2.2 222 = some (.getfield 25, 3) := by rw [It_X2_next]; rfl
theorem I_X2_next_225 : zin zm_X2_next.2.2.2.2.2 225 = some (.aload_n 0, 1) := by rw [It_X2_next]; rfl
theorem I_X2_next_226 : zin zm_X2_next.2.2.2.2.2 226 = some (.getfield 102, 3) := by rw [It_X2_next]; rfl
theorem I_X2_next_229 : zin zm_X2_next.2.2.2.2.2 229 = some (.isub, 1) := by rw [It_X2_next]; rfl
theorem I_X2_next_230 : zin zm_X2_next.2.2.2.2.2 230 = some (.iconst 2, 1) := by rw [It_X2_next]; rfl
theorem I_X2_next_231 : zin zm_X2_next.2.2.2.2.2 231 = some (.if_icmp .le 7, 3) := by rw [It_X2_next]; rfl
theorem I_X2_next_234 : zin zm_X2_next.2.2.2.2.2 234 = some (.iconst 4, 1) := by rw [It_X2_next]; rfl
theorem I_X2_next_235 : zin zm_X2_next.2.2.2.2.2 235 = some (.goto 4, 3) := by rw [It_X2_next]; rfl
theorem I_X2_next_238 : zin zm_X2_next.2.2.2.2.2 238 = some (.iconst 2, 1) := by rw [It_X2_next]; rfl
theorem I_X2_next_239 : zin zm_X2_next.2.2.2.2.2 239 = some (.putfield 51, 3) := by rw [It_X2_next]; rfl
theorem I_X2_next_242 : zin zm_X2_next.2.2.2.2.2 242 = some (.goto 18, 3) := by rw [It_X2_next]; rfl
theorem I_X2_next_245 : zin zm_X2_next.2.2.2.2.2 245 = some (.aload_n 0, 1) := by rw [It_X2_next]; rfl
theorem I_X2_next_246 : zin zm_X2_next.2.2.2.2.2 246 = some (.iload_n 1, 1) := by rw [It_X2_next]; rfl
theorem I_X2_next_247 : zin zm_X2_next.2.2.2.2.2 247 = some (.bipush 59, 2) := by rw [It_X2_next]; rfl
theorem I_X2_next_249 : zin zm_X2_next.2.2.2.2.2 249 = some (.if_icmp .ne 7, 3) := by rw [It_X2_next]; rfl
theorem I_X2_next_252 : zin zm_X2_next.2.2.2.2.2 252 = some (.iconst 3, 1) := by rw [It_X2_next]; rfl
theorem I_X2_next_253 : zin zm_X2_next.2.2.2.2.2 253 = some (.goto 4, 3) := by rw [It_X2_next]; rfl
theorem I_X2_next_256 : zin zm_X2_next.2.2.2.2.2 256 = some (.iconst 4, 1) := by rw [It_X2_next]; rfl
theorem I_X2_next_257 : zin zm_X2_next.2.2.2.2.2 257 = some (.putfield 51, 3) := by rw [It_X2_next]; rfl
theorem I_X2_next_260 : zin zm_X2_next.2.2.2.2.2 260 = some (.return_, 1) := by rw [It_X2_next]; rfl
theorem G_2_9 : zlk zfls 2 9 = some (2, 0, 151) := rfl
theorem G_2_25 : zlk zfls 2 25 = some (2, 6, 163) := rfl
theorem G_2_51 : zlk zfls 2 51 = some (2, 7, 164) := rfl
theorem G_2_71 : zlk zfls 2 71 = some (2, 2, 156) := rfl
theorem G_2_102 : zlk zfls 2 102 = some (2, 8, 165) := rfl
theorem G_2_105 : zlk zfls 2 105 = some (2, 9, 166) := rfl
theorem K_2_121 : zlk zmls 2 121 = some (1, 38, 1, 351) := rfl
theorem K_2_124 : zlk zmls 2 124 = some (1, 39, 1, 354) := rfl
theorem Zm_38 : zms[38]? = some zm_X2_isLetter := rfl
theorem Zm_39 : zms[39]? = some zm_X2_isFigure := rfl
theorem LY_1 : zLY[1]? = some (Sum.inr 2, [some (.ref 2), some (.ref 3), none, none, none, none, none, none, none, none, none, none, none]) := rfl
theorem LY_2 : zLY[2]? = some (Sum.inl 1, List.replicate 160 none) := rfl
theorem cl_X2_next : zm_X2_next.2.2.2.2.1 = 2 := by
  unfold zm_X2_next
  rfl
theorem cn_X2_next : zm_X2_next.2.2.2.2.1 ≠ 12 := by
  rw [cl_X2_next]
  decide
/-- the first place from p on that is past the tape or not of this kind -/
def tB (f : Int32 → Bool) (t : Nat → Int32) (n : Nat) : Nat → Nat → Nat
  | 0, p => p
  | k + 1, p => if p < n ∧ f (t p) = true then tB f t n k (p + 1) else p
def tE (f : Int32 → Bool) (t : Nat → Int32) (n p : Nat) : Nat := tB f t n (n - p) p
theorem tE_out {f : Int32 → Bool} {t : Nat → Int32} {n p : Nat} (h : n ≤ p) : tE f t n p = p := by
  unfold tE
  rw [Nat.sub_eq_zero_of_le h]
  rfl
theorem tE_no {f : Int32 → Bool} {t : Nat → Int32} {n p : Nat} (h : f (t p) = false) : tE f t n p = p := by
  unfold tE
  cases n - p with
  | zero => rfl
  | succ k => simp [tB, h]
theorem tE_yes {f : Int32 → Bool} {t : Nat → Int32} {n p : Nat} (h1 : p < n) (h2 : f (t p) = true) : tE f t n p = tE f t n (p + 1) := by
  unfold tE
  obtain ⟨k, hk⟩ : ∃ k, n - p = k + 1 := ⟨n - p - 1, by omega⟩
  rw [hk, show n - (p + 1) = k by omega]
  simp [tB, h1, h2]
theorem tB_ge {f : Int32 → Bool} {t : Nat → Int32} {n : Nat} : ∀ (k p : Nat), p ≤ tB f t n k p
  | 0, p => Nat.le_refl p
  | k + 1, p => by
    simp only [tB]
    split
    · exact Nat.le_trans (Nat.le_succ p) (tB_ge k (p + 1))
    · exact Nat.le_refl p
theorem tE_ge {f : Int32 → Bool} {t : Nat → Int32} {n p : Nat} : p ≤ tE f t n p := tB_ge _ _
theorem tB_le {f : Int32 → Bool} {t : Nat → Int32} {n : Nat} : ∀ (k p : Nat), p ≤ n → tB f t n k p ≤ n
  | 0, p, h => h
  | k + 1, p, h => by
    simp only [tB]
    split
    · rename_i hh
      exact tB_le k (p + 1) hh.1
    · exact h
theorem tE_le {f : Int32 → Bool} {t : Nat → Int32} {n p : Nat} (h : p ≤ n) : tE f t n p ≤ n := tB_le _ _ h
theorem tB_cg {f : Int32 → Bool} {t u : Nat → Int32} {n : Nat} (h : ∀ i, i < n → t i = u i) : ∀ (k p : Nat), tB f t n k p = tB f u n k p
  | 0, p => rfl
  | k + 1, p => by
    simp only [tB]
    by_cases hp : p < n
    · rw [h p hp, tB_cg h k (p + 1)]
    · simp [hp]
def zsp (c : Int32) : Bool := decide (c = 32)
def zlt (c : Int32) : Bool := decide (¬ c < 97) && decide (¬ 122 < c)
def zdg (c : Int32) : Bool := decide (¬ c < 48) && decide (¬ 57 < c)
def tS (t : Nat → Int32) (n p : Nat) : Nat := tE zsp t n p
/-- a token's kind: 0 the end, 1 a name, 2 a number, 3 a stop, 4 broken -/
def tKs (t : Nat → Int32) (n s : Nat) : Int32 := if n ≤ s then 0 else if zlt (t s) = true then 1 else if zdg (t s) = true then (if 2 < tE zdg t n (s + 1) - s then 4 else 2) else if t s = 59 then 3 else 4
def tNs (t : Nat → Int32) (n s : Nat) : Nat := if n ≤ s then s else if zlt (t s) = true then tE zlt t n (s + 1) else if zdg (t s) = true then tE zdg t n (s + 1) else s + 1
def tVs (t : Nat → Int32) (n s : Nat) : Int32 := if zdg (t s) = true then (if tE zdg t n (s + 1) = s + 1 then t s - 48 else (t s - 48) * 10 + t (s + 1) - 48) else 0
def tK (t : Nat → Int32) (n p : Nat) : Int32 := tKs t n (tS t n p)
def tN (t : Nat → Int32) (n p : Nat) : Nat := tNs t n (tS t n p)
def tV (t : Nat → Int32) (n p : Nat) : Int32 := tVs t n (tS t n p)
theorem zofn_1 {i : Nat} : Int32.ofNat i + 1 = Int32.ofNat (i + 1) := by
  rw [Int32.ofNat_add]
  rfl
/-- the four places that reading a token writes -/
def zf69 (m m1 : zM) : Prop := ∀ a b, ¬ (a = 1 ∧ 6 ≤ b ∧ b ≤ 9) → m1 a b = m a b
theorem t_X2_isLetter {d : Nat} {m : zM} {r : Option Value} {h' : zHp} {c : Int32}  (H : zE none d zm_X2_isLetter 0 [.int c] [] m r h') : r = some (.int (if zlt c = true then 1 else 0)) ∧ h' = zhp m := by
  replace H := i_iln (q := 1) H I_X2_isLetter_0 rfl rfl
  replace H := i_bip (x := 97) (q := 3) H I_X2_isLetter_1 (by decide) rfl
  have W := i_ic_lt (t := 16) (q := 6) H I_X2_isLetter_3 (by decide) rfl
  clear H
  rcases W with ⟨c_3, H⟩ | ⟨c_3, H⟩
  · skip
    replace H := i_icst (x := 0) (q := 17) H I_X2_isLetter_16 (by decide) rfl
    obtain ⟨hr, hh⟩ := i_ir H I_X2_isLetter_17
    refine ⟨hr.trans ?_, hh⟩
    simp [zlt, *]
  · skip
    replace H := i_iln (q := 7) H I_X2_isLetter_6 rfl rfl
    replace H := i_bip (x := 122) (q := 9) H I_X2_isLetter_7 (by decide) rfl
    have W := i_ic_gt (t := 16) (q := 12) H I_X2_isLetter_9 (by decide) rfl
    clear H
    rcases W with ⟨c_9, H⟩ | ⟨c_9, H⟩
    · skip
      replace H := i_icst (x := 0) (q := 17) H I_X2_isLetter_16 (by decide) rfl
      obtain ⟨hr, hh⟩ := i_ir H I_X2_isLetter_17
      refine ⟨hr.trans ?_, hh⟩
      simp [zlt, *]
    · skip
      replace H := i_icst (x := 1) (q := 13) H I_X2_isLetter_12 (by decide) rfl
      replace H := i_goto (q := 17) H I_X2_isLetter_13 (by decide)
      obtain ⟨hr, hh⟩ := i_ir H I_X2_isLetter_17
      refine ⟨hr.trans ?_, hh⟩
      simp [zlt, *]
theorem t_X2_isFigure {d : Nat} {m : zM} {r : Option Value} {h' : zHp} {c : Int32}  (H : zE none d zm_X2_isFigure 0 [.int c] [] m r h') : r = some (.int (if zdg c = true then 1 else 0)) ∧ h' = zhp m := by
  replace H := i_iln (q := 1) H I_X2_isFigure_0 rfl rfl
  replace H := i_bip (x := 48) (q := 3) H I_X2_isFigure_1 (by decide) rfl
  have W := i_ic_lt (t := 16) (q := 6) H I_X2_isFigure_3 (by decide) rfl
  clear H
  rcases W with ⟨c_3, H⟩ | ⟨c_3, H⟩
  · skip
    replace H := i_icst (x := 0) (q := 17) H I_X2_isFigure_16 (by decide) rfl
    obtain ⟨hr, hh⟩ := i_ir H I_X2_isFigure_17
    refine ⟨hr.trans ?_, hh⟩
    simp [zdg, *]
  · skip
    replace H := i_iln (q := 7) H I_X2_isFigure_6 rfl rfl
    replace H := i_bip (x := 57) (q := 9) H I_X2_isFigure_7 (by decide) rfl
    have W := i_ic_gt (t := 16) (q := 12) H I_X2_isFigure_9 (by decide) rfl
    clear H
    rcases W with ⟨c_9, H⟩ | ⟨c_9, H⟩
    · skip
      replace H := i_icst (x := 0) (q := 17) H I_X2_isFigure_16 (by decide) rfl
      obtain ⟨hr, hh⟩ := i_ir H I_X2_isFigure_17
      refine ⟨hr.trans ?_, hh⟩
      simp [zdg, *]
    · skip
      replace H := i_icst (x := 1) (q := 13) H I_X2_isFigure_12 (by decide) rfl
      replace H := i_goto (q := 17) H I_X2_isFigure_13 (by decide)
      obtain ⟨hr, hh⟩ := i_ir H I_X2_isFigure_17
      refine ⟨hr.trans ?_, hh⟩
      simp [zdg, *]

theorem nx_blank : ∀ (j n p : Nat) (m : zM) (d : Nat) (r : Option Value) (h' : zHp) , n - p = j → m 1 2 = Int32.ofNat n → n ≤ 160 → m 1 6 = Int32.ofNat p → p ≤ n → zE none d zm_X2_next 0 [.ref 1, .null] [] m r h' → ∃ m1, zE none d zm_X2_next 38 [.ref 1, .null] [] m1 r h' ∧ m1 1 6 = Int32.ofNat (tE zsp (m 2) n p) ∧ ∀ a b, ¬ (a = 1 ∧ b = 6) → m1 a b = m a b := by
  intro j
  induction j with
  | zero =>
    intro n p m d r h'  hj hn hn2 hp hpn H
    have e : p = n := by omega
    subst e
    replace H := i_aln (q := 1) H I_X2_next_0 rfl rfl
    replace H := i_gfi (q := 4) H I_X2_next_1 G_2_25 cn_X2_next LY_1 rfl rfl
    replace H := i_aln (q := 5) H I_X2_next_4 rfl rfl
    replace H := i_gfi (q := 8) H I_X2_next_5 G_2_71 cn_X2_next LY_1 rfl rfl
    have W := i_ic_ge (t := 38) (q := 11) H I_X2_next_8 (by decide) rfl
    clear H
    rcases W with ⟨c_8, H⟩ | ⟨c_8, H⟩
    · skip
      refine ⟨m, H, ?_, fun a b _ => rfl⟩
      rw [tE_out (by omega), hp]
    · skip
      replace H := i_aln (q := 12) H I_X2_next_11 rfl rfl
      replace H := i_gfr (q := 15) H I_X2_next_12 G_2_9 cn_X2_next LY_1 rfl rfl
      replace H := i_aln (q := 16) H I_X2_next_15 rfl rfl
      replace H := i_gfi (q := 19) H I_X2_next_16 G_2_25 cn_X2_next LY_1 rfl rfl
      have W := i_ba (q := 20) H I_X2_next_19 LY_2 rfl
      clear H
      obtain ⟨i_19, bi_19, ei_19, H⟩ := W
      replace H := i_bip (x := 32) (q := 22) H I_X2_next_20 (by decide) rfl
      have W := i_ic_ne (t := 38) (q := 25) H I_X2_next_22 (by decide) rfl
      clear H
      rcases W with ⟨c_22, H⟩ | ⟨c_22, H⟩
      · skip
        exfalso
        rw [hp, hn] at c_8
        exact absurd ((zofn_lt (by omega) (by omega)).mp c_8) (by omega)
      · skip
        replace H := i_aln (q := 26) H I_X2_next_25 rfl rfl
        replace H := i_dup (q := 27) H I_X2_next_26 rfl rfl
        replace H := i_gfi (q := 30) H I_X2_next_27 G_2_25 cn_X2_next LY_1 rfl rfl
        replace H := i_icst (x := 1) (q := 31) H I_X2_next_30 (by decide) rfl
        replace H := i_iadd (q := 32) H I_X2_next_31 rfl
        replace H := i_pf (q := 35) H I_X2_next_32 G_2_25 cn_X2_next LY_1 rfl rfl
        replace H := i_goto (q := 0) H I_X2_next_35 (by decide)
        exfalso
        rw [hp, hn] at c_8
        exact absurd ((zofn_lt (by omega) (by omega)).mp c_8) (by omega)
  | succ j ih =>
    intro n p m d r h'  hj hn hn2 hp hpn H
    replace H := i_aln (q := 1) H I_X2_next_0 rfl rfl
    replace H := i_gfi (q := 4) H I_X2_next_1 G_2_25 cn_X2_next LY_1 rfl rfl
    replace H := i_aln (q := 5) H I_X2_next_4 rfl rfl
    replace H := i_gfi (q := 8) H I_X2_next_5 G_2_71 cn_X2_next LY_1 rfl rfl
    have W := i_ic_ge (t := 38) (q := 11) H I_X2_next_8 (by decide) rfl
    clear H
    rcases W with ⟨c_8, H⟩ | ⟨c_8, H⟩
    · skip
      exfalso
      rw [hp, hn] at c_8
      exact c_8 ((zofn_lt (by omega) (by omega)).mpr (by omega))
    · skip
      replace H := i_aln (q := 12) H I_X2_next_11 rfl rfl
      replace H := i_gfr (q := 15) H I_X2_next_12 G_2_9 cn_X2_next LY_1 rfl rfl
      replace H := i_aln (q := 16) H I_X2_next_15 rfl rfl
      replace H := i_gfi (q := 19) H I_X2_next_16 G_2_25 cn_X2_next LY_1 rfl rfl
      have W := i_ba (q := 20) H I_X2_next_19 LY_2 rfl
      clear H
      obtain ⟨i_19, bi_19, ei_19, H⟩ := W
      replace H := i_bip (x := 32) (q := 22) H I_X2_next_20 (by decide) rfl
      have W := i_ic_ne (t := 38) (q := 25) H I_X2_next_22 (by decide) rfl
      clear H
      rcases W with ⟨c_22, H⟩ | ⟨c_22, H⟩
      · skip
        have hi : i_19 = p := (zofn (ei_19.symm.trans hp) (by omega) (by omega))
        subst hi
        refine ⟨m, H, ?_, fun a b _ => rfl⟩
        rw [tE_no (by simp [zsp, c_22]), hp]
      · skip
        replace H := i_aln (q := 26) H I_X2_next_25 rfl rfl
        replace H := i_dup (q := 27) H I_X2_next_26 rfl rfl
        replace H := i_gfi (q := 30) H I_X2_next_27 G_2_25 cn_X2_next LY_1 rfl rfl
        replace H := i_icst (x := 1) (q := 31) H I_X2_next_30 (by decide) rfl
        replace H := i_iadd (q := 32) H I_X2_next_31 rfl
        replace H := i_pf (q := 35) H I_X2_next_32 G_2_25 cn_X2_next LY_1 rfl rfl
        replace H := i_goto (q := 0) H I_X2_next_35 (by decide)
        have hi : i_19 = p := (zofn (ei_19.symm.trans hp) (by omega) (by omega))
        subst hi
        obtain ⟨m1, H1, h1, h2⟩ := ih n (i_19 + 1) _ d r h'  (by omega) (by simpa [zup] using hn) hn2 (by rw [zup_s, hp, zofn_1]) (by rw [hp, hn] at c_8; have := (zofn_lt (by omega) (by omega)).mp c_8; omega) H
        refine ⟨m1, H1, ?_, fun a b hab => ?_⟩
        · rw [h1, tE_yes (f := zsp) (p := i_19) (by rw [hp, hn] at c_8; exact (zofn_lt (by omega) (by omega)).mp c_8) (by simp [zsp, c_22])]
          rfl
        · rw [h2 a b hab]
          exact zup_n hab

theorem nx_name : ∀ (j n p : Nat) (m : zM) (d : Nat) (r : Option Value) (h' : zHp) (c : Int32), n - p = j → m 1 2 = Int32.ofNat n → n ≤ 160 → m 1 6 = Int32.ofNat p → p ≤ n → zE none d zm_X2_next 95 [.ref 1, .int c] [] m r h' → ∃ m1, zE none d zm_X2_next 134 [.ref 1, .int c] [] m1 r h' ∧ m1 1 6 = Int32.ofNat (tE zlt (m 2) n p) ∧ ∀ a b, ¬ (a = 1 ∧ b = 6) → m1 a b = m a b := by
  intro j
  induction j with
  | zero =>
    intro n p m d r h' c hj hn hn2 hp hpn H
    have e : p = n := by omega
    subst e
    replace H := i_aln (q := 96) H I_X2_next_95 rfl rfl
    replace H := i_gfi (q := 99) H I_X2_next_96 G_2_25 cn_X2_next LY_1 rfl rfl
    replace H := i_aln (q := 100) H I_X2_next_99 rfl rfl
    replace H := i_gfi (q := 103) H I_X2_next_100 G_2_71 cn_X2_next LY_1 rfl rfl
    have W := i_ic_ge (t := 134) (q := 106) H I_X2_next_103 (by decide) rfl
    clear H
    rcases W with ⟨c_103, H⟩ | ⟨c_103, H⟩
    · skip
      refine ⟨m, H, ?_, fun a b _ => rfl⟩
      rw [tE_out (by omega), hp]
    · skip
      replace H := i_aln (q := 107) H I_X2_next_106 rfl rfl
      replace H := i_gfr (q := 110) H I_X2_next_107 G_2_9 cn_X2_next LY_1 rfl rfl
      replace H := i_aln (q := 111) H I_X2_next_110 rfl rfl
      replace H := i_gfi (q := 114) H I_X2_next_111 G_2_25 cn_X2_next LY_1 rfl rfl
      have W := i_ba (q := 115) H I_X2_next_114 LY_2 rfl
      clear H
      obtain ⟨i_114, bi_114, ei_114, H⟩ := W
      have W := i_cs1 0 (q := 118) H I_X2_next_115 K_2_121 Zm_38 rfl rfl
      clear H
      obtain ⟨r1, h1, Hc, K1, K2⟩ := W
      obtain ⟨e1, e2⟩ := t_X2_isLetter Hc
      have H := K1 _ _ e1 e2
      clear e1 e2 Hc K1 K2
      have W := i_if_eq (t := 134) (q := 121) H I_X2_next_118 (by decide) rfl
      clear H
      rcases W with ⟨c_118, H⟩ | ⟨c_118, H⟩
      · skip
        exfalso
        rw [hp, hn] at c_103
        exact absurd ((zofn_lt (by omega) (by omega)).mp c_103) (by omega)
      · skip
        replace H := i_aln (q := 122) H I_X2_next_121 rfl rfl
        replace H := i_dup (q := 123) H I_X2_next_122 rfl rfl
        replace H := i_gfi (q := 126) H I_X2_next_123 G_2_25 cn_X2_next LY_1 rfl rfl
        replace H := i_icst (x := 1) (q := 127) H I_X2_next_126 (by decide) rfl
        replace H := i_iadd (q := 128) H I_X2_next_127 rfl
        replace H := i_pf (q := 131) H I_X2_next_128 G_2_25 cn_X2_next LY_1 rfl rfl
        replace H := i_goto (q := 95) H I_X2_next_131 (by decide)
        exfalso
        rw [hp, hn] at c_103
        exact absurd ((zofn_lt (by omega) (by omega)).mp c_103) (by omega)
  | succ j ih =>
    intro n p m d r h' c hj hn hn2 hp hpn H
    replace H := i_aln (q := 96) H I_X2_next_95 rfl rfl
    replace H := i_gfi (q := 99) H I_X2_next_96 G_2_25 cn_X2_next LY_1 rfl rfl
    replace H := i_aln (q := 100) H I_X2_next_99 rfl rfl
    replace H := i_gfi (q := 103) H I_X2_next_100 G_2_71 cn_X2_next LY_1 rfl rfl
    have W := i_ic_ge (t := 134) (q := 106) H I_X2_next_103 (by decide) rfl
    clear H
    rcases W with ⟨c_103, H⟩ | ⟨c_103, H⟩
    · skip
      exfalso
      rw [hp, hn] at c_103
      exact c_103 ((zofn_lt (by omega) (by omega)).mpr (by omega))
    · skip
      replace H := i_aln (q := 107) H I_X2_next_106 rfl rfl
      replace H := i_gfr (q := 110) H I_X2_next_107 G_2_9 cn_X2_next LY_1 rfl rfl
      replace H := i_aln (q := 111) H I_X2_next_110 rfl rfl
      replace H := i_gfi (q := 114) H I_X2_next_111 G_2_25 cn_X2_next LY_1 rfl rfl
      have W := i_ba (q := 115) H I_X2_next_114 LY_2 rfl
      clear H
      obtain ⟨i_114, bi_114, ei_114, H⟩ := W
      have W := i_cs1 0 (q := 118) H I_X2_next_115 K_2_121 Zm_38 rfl rfl
      clear H
      obtain ⟨r1, h1, Hc, K1, K2⟩ := W
      obtain ⟨e1, e2⟩ := t_X2_isLetter Hc
      have H := K1 _ _ e1 e2
      clear e1 e2 Hc K1 K2
      have W := i_if_eq (t := 134) (q := 121) H I_X2_next_118 (by decide) rfl
      clear H
      rcases W with ⟨c_118, H⟩ | ⟨c_118, H⟩
      · skip
        have hi : i_114 = p := (zofn (ei_114.symm.trans hp) (by omega) (by omega))
        subst hi
        refine ⟨m, H, ?_, fun a b _ => rfl⟩
        rw [tE_no (by simpa using c_118), hp]
      · skip
        replace H := i_aln (q := 122) H I_X2_next_121 rfl rfl
        replace H := i_dup (q := 123) H I_X2_next_122 rfl rfl
        replace H := i_gfi (q := 126) H I_X2_next_123 G_2_25 cn_X2_next LY_1 rfl rfl
        replace H := i_icst (x := 1) (q := 127) H I_X2_next_126 (by decide) rfl
        replace H := i_iadd (q := 128) H I_X2_next_127 rfl
        replace H := i_pf (q := 131) H I_X2_next_128 G_2_25 cn_X2_next LY_1 rfl rfl
        replace H := i_goto (q := 95) H I_X2_next_131 (by decide)
        have hi : i_114 = p := (zofn (ei_114.symm.trans hp) (by omega) (by omega))
        subst hi
        obtain ⟨m1, H1, h1, h2⟩ := ih n (i_114 + 1) _ d r h' c (by omega) (by simpa [zup] using hn) hn2 (by rw [zup_s, hp, zofn_1]) (by rw [hp, hn] at c_103; have := (zofn_lt (by omega) (by omega)).mp c_103; omega) H
        refine ⟨m1, H1, ?_, fun a b hab => ?_⟩
        · rw [h1, tE_yes (f := zlt) (p := i_114) (by rw [hp, hn] at c_103; exact (zofn_lt (by omega) (by omega)).mp c_103) (by simpa using c_118)]
          rfl
        · rw [h2 a b hab]
          exact zup_n hab
theorem nx_dig : ∀ (j n p s : Nat) (m : zM) (d : Nat) (r : Option Value) (h' : zHp) (c : Int32), n - p = j → m 1 2 = Int32.ofNat n → n ≤ 160 → m 1 6 = Int32.ofNat p → p ≤ n → s < p → m 1 8 = Int32.ofNat s → (p = s + 1 → m 1 9 = m 2 s - 48) → (p = s + 2 → m 1 9 = (m 2 s - 48) * 10 + m 2 (s + 1) - 48) → zE none d zm_X2_next 157 [.ref 1, .int c] [] m r h' → ∃ m1, zE none d zm_X2_next 220 [.ref 1, .int c] [] m1 r h' ∧ m1 1 6 = Int32.ofNat (tE zdg (m 2) n p) ∧ (tE zdg (m 2) n p = s + 1 → m1 1 9 = m 2 s - 48) ∧ (tE zdg (m 2) n p = s + 2 → m1 1 9 = (m 2 s - 48) * 10 + m 2 (s + 1) - 48) ∧ ∀ a b, ¬ (a = 1 ∧ (b = 6 ∨ b = 9)) → m1 a b = m a b := by
  intro j
  induction j with
  | zero =>
    intro n p s m d r h' c hj hn hn2 hp hpn hsp hs hv1 hv2 H
    have e : p = n := by omega
    subst e
    replace H := i_aln (q := 158) H I_X2_next_157 rfl rfl
    replace H := i_gfi (q := 161) H I_X2_next_158 G_2_25 cn_X2_next LY_1 rfl rfl
    replace H := i_aln (q := 162) H I_X2_next_161 rfl rfl
    replace H := i_gfi (q := 165) H I_X2_next_162 G_2_71 cn_X2_next LY_1 rfl rfl
    have W := i_ic_ge (t := 220) (q := 168) H I_X2_next_165 (by decide) rfl
    clear H
    rcases W with ⟨c_165, H⟩ | ⟨c_165, H⟩
    · skip
      exact ⟨m, H, by rw [tE_out (by omega), hp], by rw [tE_out (by omega)]; exact hv1, by rw [tE_out (by omega)]; exact hv2, fun a b _ => rfl⟩
    · skip
      replace H := i_aln (q := 169) H I_X2_next_168 rfl rfl
      replace H := i_gfr (q := 172) H I_X2_next_169 G_2_9 cn_X2_next LY_1 rfl rfl
      replace H := i_aln (q := 173) H I_X2_next_172 rfl rfl
      replace H := i_gfi (q := 176) H I_X2_next_173 G_2_25 cn_X2_next LY_1 rfl rfl
      have W := i_ba (q := 177) H I_X2_next_176 LY_2 rfl
      clear H
      obtain ⟨i_176, bi_176, ei_176, H⟩ := W
      have W := i_cs1 0 (q := 180) H I_X2_next_177 K_2_124 Zm_39 rfl rfl
      clear H
      obtain ⟨r1, h1, Hc, K1, K2⟩ := W
      obtain ⟨e1, e2⟩ := t_X2_isFigure Hc
      have H := K1 _ _ e1 e2
      clear e1 e2 Hc K1 K2
      have W := i_if_eq (t := 220) (q := 183) H I_X2_next_180 (by decide) rfl
      clear H
      rcases W with ⟨c_180, H⟩ | ⟨c_180, H⟩
      · skip
        exfalso
        rw [hp, hn] at c_165
        exact absurd ((zofn_lt (by omega) (by omega)).mp c_165) (by omega)
      · skip
        replace H := i_aln (q := 184) H I_X2_next_183 rfl rfl
        replace H := i_aln (q := 185) H I_X2_next_184 rfl rfl
        replace H := i_gfi (q := 188) H I_X2_next_185 G_2_105 cn_X2_next LY_1 rfl rfl
        replace H := i_bip (x := 10) (q := 190) H I_X2_next_188 (by decide) rfl
        replace H := i_imul (q := 191) H I_X2_next_190 rfl
        replace H := i_aln (q := 192) H I_X2_next_191 rfl rfl
        replace H := i_gfr (q := 195) H I_X2_next_192 G_2_9 cn_X2_next LY_1 rfl rfl
        replace H := i_aln (q := 196) H I_X2_next_195 rfl rfl
        replace H := i_gfi (q := 199) H I_X2_next_196 G_2_25 cn_X2_next LY_1 rfl rfl
        have W := i_ba (q := 200) H I_X2_next_199 LY_2 rfl
        clear H
        obtain ⟨i_199, bi_199, ei_199, H⟩ := W
        replace H := i_iadd (q := 201) H I_X2_next_200 rfl
        replace H := i_bip (x := 48) (q := 203) H I_X2_next_201 (by decide) rfl
        replace H := i_isub (q := 204) H I_X2_next_203 rfl
        replace H := i_pf (q := 207) H I_X2_next_204 G_2_105 cn_X2_next LY_1 rfl rfl
        replace H := i_aln (q := 208) H I_X2_next_207 rfl rfl
        replace H := i_dup (q := 209) H I_X2_next_208 rfl rfl
        replace H := i_gfi (q := 212) H I_X2_next_209 G_2_25 cn_X2_next LY_1 rfl rfl
        replace H := i_icst (x := 1) (q := 213) H I_X2_next_212 (by decide) rfl
        replace H := i_iadd (q := 214) H I_X2_next_213 rfl
        replace H := i_pf (q := 217) H I_X2_next_214 G_2_25 cn_X2_next LY_1 rfl rfl
        replace H := i_goto (q := 157) H I_X2_next_217 (by decide)
        exfalso
        rw [hp, hn] at c_165
        exact absurd ((zofn_lt (by omega) (by omega)).mp c_165) (by omega)
  | succ j ih =>
    intro n p s m d r h' c hj hn hn2 hp hpn hsp hs hv1 hv2 H
    replace H := i_aln (q := 158) H I_X2_next_157 rfl rfl
    replace H := i_gfi (q := 161) H I_X2_next_158 G_2_25 cn_X2_next LY_1 rfl rfl
    replace H := i_aln (q := 162) H I_X2_next_161 rfl rfl
    replace H := i_gfi (q := 165) H I_X2_next_162 G_2_71 cn_X2_next LY_1 rfl rfl
    have W := i_ic_ge (t := 220) (q := 168) H I_X2_next_165 (by decide) rfl
    clear H
    rcases W with ⟨c_165, H⟩ | ⟨c_165, H⟩
    · skip
      exfalso
      rw [hp, hn] at c_165
      exact c_165 ((zofn_lt (by omega) (by omega)).mpr (by omega))
    · skip
      replace H := i_aln (q := 169) H I_X2_next_168 rfl rfl
      replace H := i_gfr (q := 172) H I_X2_next_169 G_2_9 cn_X2_next LY_1 rfl rfl
      replace H := i_aln (q := 173) H I_X2_next_172 rfl rfl
      replace H := i_gfi (q := 176) H I_X2_next_173 G_2_25 cn_X2_next LY_1 rfl rfl
      have W := i_ba (q := 177) H I_X2_next_176 LY_2 rfl
      clear H
      obtain ⟨i_176, bi_176, ei_176, H⟩ := W
      have W := i_cs1 0 (q := 180) H I_X2_next_177 K_2_124 Zm_39 rfl rfl
      clear H
      obtain ⟨r1, h1, Hc, K1, K2⟩ := W
      obtain ⟨e1, e2⟩ := t_X2_isFigure Hc
      have H := K1 _ _ e1 e2
      clear e1 e2 Hc K1 K2
      have W := i_if_eq (t := 220) (q := 183) H I_X2_next_180 (by decide) rfl
      clear H
      rcases W with ⟨c_180, H⟩ | ⟨c_180, H⟩
      · skip
        have hi : i_176 = p := (zofn (ei_176.symm.trans hp) (by omega) (by omega))
        subst hi
        have hlt : i_176 < n := by rw [hp, hn] at c_165; exact (zofn_lt (by omega) (by omega)).mp c_165
        have hd : zdg (m 2 i_176) = false := by simpa using c_180
        exact ⟨m, H, by rw [tE_no hd, hp], by rw [tE_no hd]; exact hv1, by rw [tE_no hd]; exact hv2, fun a b _ => rfl⟩
      · skip
        replace H := i_aln (q := 184) H I_X2_next_183 rfl rfl
        replace H := i_aln (q := 185) H I_X2_next_184 rfl rfl
        replace H := i_gfi (q := 188) H I_X2_next_185 G_2_105 cn_X2_next LY_1 rfl rfl
        replace H := i_bip (x := 10) (q := 190) H I_X2_next_188 (by decide) rfl
        replace H := i_imul (q := 191) H I_X2_next_190 rfl
        replace H := i_aln (q := 192) H I_X2_next_191 rfl rfl
        replace H := i_gfr (q := 195) H I_X2_next_192 G_2_9 cn_X2_next LY_1 rfl rfl
        replace H := i_aln (q := 196) H I_X2_next_195 rfl rfl
        replace H := i_gfi (q := 199) H I_X2_next_196 G_2_25 cn_X2_next LY_1 rfl rfl
        have W := i_ba (q := 200) H I_X2_next_199 LY_2 rfl
        clear H
        obtain ⟨i_199, bi_199, ei_199, H⟩ := W
        replace H := i_iadd (q := 201) H I_X2_next_200 rfl
        replace H := i_bip (x := 48) (q := 203) H I_X2_next_201 (by decide) rfl
        replace H := i_isub (q := 204) H I_X2_next_203 rfl
        replace H := i_pf (q := 207) H I_X2_next_204 G_2_105 cn_X2_next LY_1 rfl rfl
        replace H := i_aln (q := 208) H I_X2_next_207 rfl rfl
        replace H := i_dup (q := 209) H I_X2_next_208 rfl rfl
        replace H := i_gfi (q := 212) H I_X2_next_209 G_2_25 cn_X2_next LY_1 rfl rfl
        replace H := i_icst (x := 1) (q := 213) H I_X2_next_212 (by decide) rfl
        replace H := i_iadd (q := 214) H I_X2_next_213 rfl
        replace H := i_pf (q := 217) H I_X2_next_214 G_2_25 cn_X2_next LY_1 rfl rfl
        replace H := i_goto (q := 157) H I_X2_next_217 (by decide)
        have hi : i_176 = p := (zofn (ei_176.symm.trans hp) (by omega) (by omega))
        subst hi
        have hlt : i_176 < n := by rw [hp, hn] at c_165; exact (zofn_lt (by omega) (by omega)).mp c_165
        have hd : zdg (m 2 i_176) = true := by simpa using c_180
        have hi2 : i_199 = i_176 := (zofn (ei_199.symm.trans hp) (by omega) (by omega))
        subst hi2
        obtain ⟨m1, H1, h1, h2, h3, h4⟩ := ih n (i_199 + 1) s _ d r h' c (by omega) (by simpa [zup] using hn) hn2 (by rw [zup_s]; rw [zup_n (by omega), hp, zofn_1]) (by omega) (by omega) (by simpa [zup] using hs) (fun e => by omega) (fun e => by
          have e2 : i_199 = s + 1 := by omega
          subst e2
          have := hv1 rfl
          simp [zup]
          rw [this]) H
        refine ⟨m1, H1, ?_, ?_, ?_, fun a b hab => ?_⟩
        · rw [h1, tE_yes (f := zdg) (p := i_199) hlt hd]
          rfl
        · intro e
          rw [tE_yes (f := zdg) (p := i_199) hlt hd] at e
          exact h2 e
        · intro e
          rw [tE_yes (f := zdg) (p := i_199) hlt hd] at e
          exact h3 e
        · rw [h4 a b hab, zup_n (fun w => hab ⟨w.1, Or.inl w.2⟩), zup_n (fun w => hab ⟨w.1, Or.inr w.2⟩)]
theorem zofn_sub {i j : Nat} (h : j ≤ i) : Int32.ofNat (i - j) = Int32.ofNat i - Int32.ofNat j := by
  have e : Int32.ofNat i = Int32.ofNat (i - j) + Int32.ofNat j := by rw [← Int32.ofNat_add, Nat.sub_add_cancel h]
  rw [e, Int32.add_sub_cancel]
theorem t_X2_next {d : Nat} {m : zM} {r : Option Value} {h' : zHp} {n p : Nat} (hn : m 1 2 = Int32.ofNat n) (hn2 : n ≤ 160) (hp : m 1 6 = Int32.ofNat p) (hpn : p ≤ n) (H : zE none d zm_X2_next 0 [.ref 1, .null] [] m r h') : ∃ m1, r = none ∧ h' = zhp m1 ∧ m1 1 6 = Int32.ofNat (tN (m 2) n p) ∧ m1 1 7 = tK (m 2) n p ∧ m1 1 8 = Int32.ofNat (tS (m 2) n p) ∧ (tK (m 2) n p = 2 → m1 1 9 = tV (m 2) n p) ∧ zf69 m m1 := by
  obtain ⟨m1, H, f6, ff⟩ := nx_blank _ n p m d r h' rfl hn hn2 hp hpn H
  have f6 : m1 1 6 = Int32.ofNat (tS (m 2) n p) := f6
  have hsn : tS (m 2) n p ≤ n := tE_le hpn
  replace H := i_aln (q := 39) H I_X2_next_38 rfl rfl
  replace H := i_aln (q := 40) H I_X2_next_39 rfl rfl
  replace H := i_gfi (q := 43) H I_X2_next_40 G_2_25 cn_X2_next LY_1 rfl rfl
  replace H := i_pf (q := 46) H I_X2_next_43 G_2_102 cn_X2_next LY_1 rfl rfl
  replace H := i_aln (q := 47) H I_X2_next_46 rfl rfl
  replace H := i_icst (x := 0) (q := 48) H I_X2_next_47 (by decide) rfl
  replace H := i_pf (q := 51) H I_X2_next_48 G_2_105 cn_X2_next LY_1 rfl rfl
  obtain ⟨m2, H, g6, g8, g2, gf⟩ : ∃ m2, zE none d zm_X2_next 51 [.ref 1, .null] [] m2 r h' ∧ m2 1 6 = Int32.ofNat (tS (m 2) n p) ∧ m2 1 8 = Int32.ofNat (tS (m 2) n p) ∧ m2 1 2 = Int32.ofNat n ∧ zf69 m m2 := ⟨_, H, by simpa [zup] using f6, by simpa [zup] using f6, by simp [zup, ff, hn], fun a b hab => by rw [zup_n (by omega), zup_n (by omega), ff a b (by omega)]⟩
  replace H := i_aln (q := 52) H I_X2_next_51 rfl rfl
  replace H := i_gfi (q := 55) H I_X2_next_52 G_2_25 cn_X2_next LY_1 rfl rfl
  replace H := i_aln (q := 56) H I_X2_next_55 rfl rfl
  replace H := i_gfi (q := 59) H I_X2_next_56 G_2_71 cn_X2_next LY_1 rfl rfl
  have W := i_ic_lt (t := 68) (q := 62) H I_X2_next_59 (by decide) rfl
  clear H
  rcases W with ⟨c_59, H⟩ | ⟨c_59, H⟩
  · skip
    replace H := i_aln (q := 69) H I_X2_next_68 rfl rfl
    replace H := i_gfr (q := 72) H I_X2_next_69 G_2_9 cn_X2_next LY_1 rfl rfl
    replace H := i_aln (q := 73) H I_X2_next_72 rfl rfl
    replace H := i_gfi (q := 76) H I_X2_next_73 G_2_25 cn_X2_next LY_1 rfl rfl
    have W := i_ba (q := 77) H I_X2_next_76 LY_2 rfl
    clear H
    obtain ⟨i_76, bi_76, ei_76, H⟩ := W
    replace H := i_isn (q := 78) H I_X2_next_77 rfl rfl
    replace H := i_aln (q := 79) H I_X2_next_78 rfl rfl
    replace H := i_dup (q := 80) H I_X2_next_79 rfl rfl
    replace H := i_gfi (q := 83) H I_X2_next_80 G_2_25 cn_X2_next LY_1 rfl rfl
    replace H := i_icst (x := 1) (q := 84) H I_X2_next_83 (by decide) rfl
    replace H := i_iadd (q := 85) H I_X2_next_84 rfl
    replace H := i_pf (q := 88) H I_X2_next_85 G_2_25 cn_X2_next LY_1 rfl rfl
    have hns : tS (m 2) n p < n := by
      rw [g6, g2] at c_59
      exact (zofn_lt (by omega) (by omega)).mp c_59
    have hi : i_76 = tS (m 2) n p := zofn (ei_76.symm.trans g6) (by omega) (by omega)
    subst hi
    have gt : m2 2 = m 2 := by funext b; exact gf 2 b (by omega)
    rw [gt] at H
    obtain ⟨m3, H, k6, k8, k2, kf⟩ : ∃ m3, zE none d zm_X2_next 88 [.ref 1, .int (m 2 (tS (m 2) n p))] [] m3 r h' ∧ m3 1 6 = Int32.ofNat (tS (m 2) n p + 1) ∧ m3 1 8 = Int32.ofNat (tS (m 2) n p) ∧ m3 1 2 = Int32.ofNat n ∧ zf69 m m3 := ⟨_, H, by rw [zup_s, g6, zofn_1], by simpa [zup] using g8, by simpa [zup] using g2, fun a b hab => by rw [zup_n (by omega), gf a b hab]⟩
    have gt3 : m3 2 = m 2 := by funext b; exact kf 2 b (by omega)
    generalize hS : tS (m 2) n p = s at *
    have hns2 : ¬ n ≤ s := by omega
    replace H := i_iln (q := 89) H I_X2_next_88 rfl rfl
    have W := i_cs1 0 (q := 92) H I_X2_next_89 K_2_121 Zm_38 rfl rfl
    clear H
    obtain ⟨r1, h1, Hc, K1, K2⟩ := W
    obtain ⟨e1, e2⟩ := t_X2_isLetter Hc
    have H := K1 _ _ e1 e2
    clear e1 e2 Hc K1 K2
    have W := i_if_eq (t := 142) (q := 95) H I_X2_next_92 (by decide) rfl
    clear H
    rcases W with ⟨c_92, H⟩ | ⟨c_92, H⟩
    · skip
      replace H := i_iln (q := 143) H I_X2_next_142 rfl rfl
      have W := i_cs1 0 (q := 146) H I_X2_next_143 K_2_124 Zm_39 rfl rfl
      clear H
      obtain ⟨r1, h1, Hc, K1, K2⟩ := W
      obtain ⟨e1, e2⟩ := t_X2_isFigure Hc
      have H := K1 _ _ e1 e2
      clear e1 e2 Hc K1 K2
      have W := i_if_eq (t := 245) (q := 149) H I_X2_next_146 (by decide) rfl
      clear H
      rcases W with ⟨c_146, H⟩ | ⟨c_146, H⟩
      · skip
        replace H := i_aln (q := 246) H I_X2_next_245 rfl rfl
        replace H := i_iln (q := 247) H I_X2_next_246 rfl rfl
        replace H := i_bip (x := 59) (q := 249) H I_X2_next_247 (by decide) rfl
        have W := i_ic_ne (t := 256) (q := 252) H I_X2_next_249 (by decide) rfl
        clear H
        rcases W with ⟨c_249, H⟩ | ⟨c_249, H⟩
        · skip
          replace H := i_icst (x := 4) (q := 257) H I_X2_next_256 (by decide) rfl
          replace H := i_pf (q := 260) H I_X2_next_257 G_2_51 cn_X2_next LY_1 rfl rfl
          obtain ⟨hr, hh⟩ := i_rt H I_X2_next_260
          have hL : zlt (m 2 s) = false := by simpa using c_92
          have hD : zdg (m 2 s) = false := by simpa using c_146
          refine ⟨_, hr, hh, ?_, ?_, ?_, ?_, ?_⟩
          · simp [zup, k6, tN, tNs, hS, hns2, hL, hD]
          · simp only [tK, tKs, hS, if_neg hns2, hL, hD, Bool.false_eq_true, if_false]
            simp [zup, c_249]
          · simp [zup, k8]
          · simp only [tK, tKs, hS, if_neg hns2, hL, hD, Bool.false_eq_true, if_false]
            simp [c_249]
          · intro a b hab
            rw [zup_n (by omega), kf a b hab]
        · skip
          replace H := i_icst (x := 3) (q := 253) H I_X2_next_252 (by decide) rfl
          replace H := i_goto (q := 257) H I_X2_next_253 (by decide)
          replace H := i_pf (q := 260) H I_X2_next_257 G_2_51 cn_X2_next LY_1 rfl rfl
          obtain ⟨hr, hh⟩ := i_rt H I_X2_next_260
          have hL : zlt (m 2 s) = false := by simpa using c_92
          have hD : zdg (m 2 s) = false := by simpa using c_146
          refine ⟨_, hr, hh, ?_, ?_, ?_, ?_, ?_⟩
          · simp [zup, k6, tN, tNs, hS, hns2, hL, hD]
          · simp only [tK, tKs, hS, if_neg hns2, hL, hD, Bool.false_eq_true, if_false]
            simp [zup, c_249]
          · simp [zup, k8]
          · simp only [tK, tKs, hS, if_neg hns2, hL, hD, Bool.false_eq_true, if_false]
            simp [c_249]
          · intro a b hab
            rw [zup_n (by omega), kf a b hab]
      · skip
        replace H := i_aln (q := 150) H I_X2_next_149 rfl rfl
        replace H := i_iln (q := 151) H I_X2_next_150 rfl rfl
        replace H := i_bip (x := 48) (q := 153) H I_X2_next_151 (by decide) rfl
        replace H := i_isub (q := 154) H I_X2_next_153 rfl
        replace H := i_pf (q := 157) H I_X2_next_154 G_2_105 cn_X2_next LY_1 rfl rfl
        have hL : zlt (m 2 s) = false := by simpa using c_92
        have hD : zdg (m 2 s) = true := by simpa using c_146
        obtain ⟨m4, H, l6, lv1, lv2, lf⟩ := nx_dig _ n (s + 1) s _ d r h' _ rfl (by simpa [zup] using k2) hn2 (by simpa [zup] using k6) (by omega) (by omega) (by simpa [zup] using k8) (fun _ => by simp [zup, gt3]) (fun e => by omega) H
        have gt4 : zup m3 1 9 (m 2 s - 48) 2 = m 2 := by funext b; simp [zup, gt3]
        rw [gt4] at l6 lv1 lv2
        have hge : s + 1 ≤ tE zdg (m 2) n (s + 1) := tE_ge
        have hle : tE zdg (m 2) n (s + 1) ≤ n := tE_le (by omega)
        have l8 : m4 1 8 = Int32.ofNat s := by rw [lf 1 8 (by omega)]; simpa [zup] using k8
        have hsub : m4 1 6 - m4 1 8 = Int32.ofNat (tE zdg (m 2) n (s + 1) - s) := by
          rw [l6, l8, ← zofn_sub (by omega)]
        replace H := i_aln (q := 221) H I_X2_next_220 rfl rfl
        replace H := i_aln (q := 222) H I_X2_next_221 rfl rfl
        replace H := i_gfi (q := 225) H I_X2_next_222 G_2_25 cn_X2_next LY_1 rfl rfl
        replace H := i_aln (q := 226) H I_X2_next_225 rfl rfl
        replace H := i_gfi (q := 229) H I_X2_next_226 G_2_102 cn_X2_next LY_1 rfl rfl
        replace H := i_isub (q := 230) H I_X2_next_229 rfl
        replace H := i_icst (x := 2) (q := 231) H I_X2_next_230 (by decide) rfl
        have W := i_ic_le (t := 238) (q := 234) H I_X2_next_231 (by decide) rfl
        clear H
        rcases W with ⟨c_231, H⟩ | ⟨c_231, H⟩
        · skip
          replace H := i_icst (x := 2) (q := 239) H I_X2_next_238 (by decide) rfl
          replace H := i_pf (q := 242) H I_X2_next_239 G_2_51 cn_X2_next LY_1 rfl rfl
          replace H := i_goto (q := 260) H I_X2_next_242 (by decide)
          obtain ⟨hr, hh⟩ := i_rt H I_X2_next_260
          have hq : ¬ 2 < tE zdg (m 2) n (s + 1) - s := by
            rw [hsub] at c_231
            exact fun w => c_231 ((zofn_lt (i := 2) (by decide) (by omega)).mpr w)
          refine ⟨_, hr, hh, ?_, ?_, ?_, ?_, ?_⟩
          · simp [zup, l6, tN, tNs, hS, hns2, hL, hD]
          · simp [zup, tK, tKs, hS, hns2, hL, hD, hq]
          · simp [zup, l8]
          · intro hk
            simp only [tV, tVs, hS, hD, if_true]
            simp [zup]
            split
            · rename_i e
              exact lv1 e
            · rename_i e
              exact lv2 (by omega)
          · intro a b hab
            rw [zup_n (by omega), lf a b (by omega), zup_n (by omega), kf a b hab]
        · skip
          replace H := i_icst (x := 4) (q := 235) H I_X2_next_234 (by decide) rfl
          replace H := i_goto (q := 239) H I_X2_next_235 (by decide)
          replace H := i_pf (q := 242) H I_X2_next_239 G_2_51 cn_X2_next LY_1 rfl rfl
          replace H := i_goto (q := 260) H I_X2_next_242 (by decide)
          obtain ⟨hr, hh⟩ := i_rt H I_X2_next_260
          have hq : 2 < tE zdg (m 2) n (s + 1) - s := by
            rw [hsub] at c_231
            exact (zofn_lt (i := 2) (by decide) (by omega)).mp c_231
          refine ⟨_, hr, hh, ?_, ?_, ?_, ?_, ?_⟩
          · simp [zup, l6, tN, tNs, hS, hns2, hL, hD]
          · simp [zup, tK, tKs, hS, hns2, hL, hD, hq]
          · simp [zup, l8]
          · intro hk
            simp only [tV, tVs, hS, hD, if_true]
            simp [zup]
            split
            · rename_i e
              exact lv1 e
            · rename_i e
              exact absurd hk (by simp [tK, tKs, hS, hns2, hL, hD, hq])
          · intro a b hab
            rw [zup_n (by omega), lf a b (by omega), zup_n (by omega), kf a b hab]
    · skip
      have hL : zlt (m 2 s) = true := by simpa using c_92
      obtain ⟨m4, H, l6, lf⟩ := nx_name _ n (s + 1) m3 d r h' _ rfl k2 hn2 k6 (by omega) H
      rw [gt3] at l6
      replace H := i_aln (q := 135) H I_X2_next_134 rfl rfl
      replace H := i_icst (x := 1) (q := 136) H I_X2_next_135 (by decide) rfl
      replace H := i_pf (q := 139) H I_X2_next_136 G_2_51 cn_X2_next LY_1 rfl rfl
      replace H := i_goto (q := 260) H I_X2_next_139 (by decide)
      obtain ⟨hr, hh⟩ := i_rt H I_X2_next_260
      refine ⟨_, hr, hh, ?_, ?_, ?_, ?_, ?_⟩
      · simp [zup, l6, tN, tNs, hS, hns2, hL]
      · simp [zup, tK, tKs, hS, hns2, hL]
      · simp [zup, lf, k8]
      · simp [tK, tKs, hS, hns2, hL]
      · intro a b hab
        rw [zup_n (by omega), lf a b (by omega), kf a b hab]
  · skip
    replace H := i_aln (q := 63) H I_X2_next_62 rfl rfl
    replace H := i_icst (x := 0) (q := 64) H I_X2_next_63 (by decide) rfl
    replace H := i_pf (q := 67) H I_X2_next_64 G_2_51 cn_X2_next LY_1 rfl rfl
    obtain ⟨hr, hh⟩ := i_rt H I_X2_next_67
    have hns : n ≤ tS (m 2) n p := by
      rw [g6, g2] at c_59
      have := mt (zofn_lt (by omega) (by omega)).mpr c_59
      omega
    refine ⟨_, hr, hh, ?_, ?_, ?_, ?_, ?_⟩
    · simp [zup, g6, tN, tNs, hns]
    · simp [zup, tK, tKs, hns]
    · simp [zup, g8]
    · simp [tK, tKs, hns]
    · intro a b hab
      rw [zup_n (by omega), gf a b hab]
