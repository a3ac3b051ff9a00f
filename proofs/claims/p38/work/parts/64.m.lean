section
/-! the class's tokens -/
theorem It_X2_isFigure : zm_X2_isFigure.2.2.2.2.2 = zt_X2_isFigure := by
  unfold zm_X2_isFigure
  rfl
theorem It_X2_isLetter : zm_X2_isLetter.2.2.2.2.2 = zt_X2_isLetter := by
  unfold zm_X2_isLetter
  rfl
theorem It_X2_next : zm_X2_next.2.2.2.2.2 = zt_X2_next := by
  unfold zm_X2_next
  rfl
theorem I_X2_isFigure_0 : zin zm_X2_isFigure.2.2.2.2.2 0 = some (.iload_n 0, 1) := by rw [It_X2_isFigure]; rfl
theorem I_X2_isFigure_1 : zin zm_X2_isFigure.2.2.2.2.2 1 = some (.bipush 48, 2) := by rw [It_X2_isFigure]; rfl
theorem I_X2_isFigure_3 : zin zm_X2_isFigure.2.2.2.2.2 3 = some (.if_icmp .lt 13, 3) := by rw [It_X2_isFigure]; rfl
theorem I_X2_isFigure_6 : zin zm_X2_isFigure.2.2.2.2.2 6 = some (.iload_n 0, 1) := by rw [It_X2_isFigure]; rfl
theorem I_X2_isFigure_7 : zin zm_X2_isFigure.2.2.2.2.2 7 = some (.bipush 57, 2) := by rw [It_X2_isFigure]; rfl
theorem I_X2_isFigure_9 : zin zm_X2_isFigure.2.2.2.2.2 9 = some (.if_icmp .gt 7, 3) := by rw [It_X2_isFigure]; rfl
theorem I_X2_isFigure_12 : zin zm_X2_isFigure.2.2.2.2.2 12 = some (.iconst 1, 1) := by rw [It_X2_isFigure]; rfl
theorem I_X2_isFigure_13 : zin zm_X2_isFigure.2.2.2.2.2 13 = some (.goto 4, 3) := by rw [It_X2_isFigure]; rfl
theorem I_X2_isFigure_16 : zin zm_X2_isFigure.2.2.2.2.2 16 = some (.iconst 0, 1) := by rw [It_X2_isFigure]; rfl
theorem I_X2_isFigure_17 : zin zm_X2_isFigure.2.2.2.2.2 17 = some (.ireturn, 1) := by rw [It_X2_isFigure]; rfl
theorem I_X2_isLetter_0 : zin zm_X2_isLetter.2.2.2.2.2 0 = some (.iload_n 0, 1) := by rw [It_X2_isLetter]; rfl
theorem I_X2_isLetter_1 : zin zm_X2_isLetter.2.2.2.2.2 1 = some (.bipush 97, 2) := by rw [It_X2_isLetter]; rfl
theorem I_X2_isLetter_3 : zin zm_X2_isLetter.2.2.2.2.2 3 = some (.if_icmp .lt 13, 3) := by rw [It_X2_isLetter]; rfl
theorem I_X2_isLetter_6 : zin zm_X2_isLetter.2.2.2.2.2 6 = some (.iload_n 0, 1) := by rw [It_X2_isLetter]; rfl
theorem I_X2_isLetter_7 : zin zm_X2_isLetter.2.2.2.2.2 7 = some (.bipush 122, 2) := by rw [It_X2_isLetter]; rfl
theorem I_X2_isLetter_9 : zin zm_X2_isLetter.2.2.2.2.2 9 = some (.if_icmp .gt 7, 3) := by rw [It_X2_isLetter]; rfl
theorem I_X2_isLetter_12 : zin zm_X2_isLetter.2.2.2.2.2 12 = some (.iconst 1, 1) := by rw [It_X2_isLetter]; rfl
theorem I_X2_isLetter_13 : zin zm_X2_isLetter.2.2.2.2.2 13 = some (.goto 4, 3) := by rw [It_X2_isLetter]; rfl
theorem I_X2_isLetter_16 : zin zm_X2_isLetter.2.2.2.2.2 16 = some (.iconst 0, 1) := by rw [It_X2_isLetter]; rfl
theorem I_X2_isLetter_17 : zin zm_X2_isLetter.2.2.2.2.2 17 = some (.ireturn, 1) := by rw [It_X2_isLetter]; rfl
theorem I_X2_next_0 : zin zm_X2_next.2.2.2.2.2 0 = some (.aload_n 0, 1) := by rw [It_X2_next]; rfl
theorem I_X2_next_1 : zin zm_X2_next.2.2.2.2.2 1 = some (.getfield 25, 3) := by rw [It_X2_next]; rfl
theorem I_X2_next_4 : zin zm_X2_next.2.2.2.2.2 4 = some (.aload_n 0, 1) := by rw [It_X2_next]; rfl
theorem I_X2_next_5 : zin zm_X2_next.2.2.2.2.2 5 = some (.getfield 71, 3) := by rw [It_X2_next]; rfl
theorem I_X2_next_8 : zin zm_X2_next.2.2.2.2.2 8 = some (.if_icmp .ge 30, 3) := by rw [It_X2_next]; rfl
theorem I_X2_next_11 : zin zm_X2_next.2.2.2.2.2 11 = some (.aload_n 0, 1) := by rw [It_X2_next]; rfl
theorem I_X2_next_12 : zin zm_X2_next.2.2.2.2.2 12 = some (.getfield 9, 3) := by rw [It_X2_next]; rfl
theorem I_X2_next_15 : zin zm_X2_next.2.2.2.2.2 15 = some (.aload_n 0, 1) := by rw [It_X2_next]; rfl
theorem I_X2_next_16 : zin zm_X2_next.2.2.2.2.2 16 = some (.getfield 25, 3) := by rw [It_X2_next]; rfl
theorem I_X2_next_19 : zin zm_X2_next.2.2.2.2.2 19 = some (.baload, 1) := by rw [It_X2_next]; rfl
theorem I_X2_next_20 : zin zm_X2_next.2.2.2.2.2 20 = some (.bipush 32, 2) := by rw [It_X2_next]; rfl
theorem I_X2_next_22 : zin zm_X2_next.2.2.2.2.2 22 = some (.if_icmp .ne 16, 3) := by rw [It_X2_next]; rfl
theorem I_X2_next_25 : zin zm_X2_next.2.2.2.2.2 25 = some (.aload_n 0, 1) := by rw [It_X2_next]; rfl
theorem I_X2_next_26 : zin zm_X2_next.2.2.2.2.2 26 = some (.dup, 1) := by rw [It_X2_next]; rfl
theorem I_X2_next_27 : zin zm_X2_next.2.2.2.2.2 27 = some (.getfield 25, 3) := by rw [It_X2_next]; rfl
theorem I_X2_next_30 : zin zm_X2_next.2.2.2.2.2 30 = some (.iconst 1, 1) := by rw [It_X2_next]; rfl
theorem I_X2_next_31 : zin zm_X2_next.2.2.2.2.2 31 = some (.iadd, 1) := by rw [It_X2_next]; rfl
theorem I_X2_next_32 : zin zm_X2_next.2.2.2.2.2 32 = some (.putfield 25, 3) := by rw [It_X2_next]; rfl
theorem I_X2_next_35 : zin zm_X2_next.2.2.2.2.2 35 = some (.goto (-35), 3) := by rw [It_X2_next]; rfl
theorem I_X2_next_38 : zin zm_X2_next.2.2.2.2.2 38 = some (.aload_n 0, 1) := by rw [It_X2_next]; rfl
theorem I_X2_next_39 : zin zm_X2_next.2.2.2.2.2 39 = some (.aload_n 0, 1) := by rw [It_X2_next]; rfl
theorem I_X2_next_40 : zin zm_X2_next.2.2.2.2.2 40 = some (.getfield 25, 3) := by rw [It_X2_next]; rfl
theorem I_X2_next_43 : zin zm_X2_next.2.2.2.2.2 43 = some (.putfield 102, 3) := by rw [It_X2_next]; rfl
theorem I_X2_next_46 : zin zm_X2_next.2.2.2.2.2 46 = some (.aload_n 0, 1) := by rw [It_X2_next]; rfl
theorem I_X2_next_47 : zin zm_X2_next.2.2.2.2.2 47 = some (.iconst 0, 1) := by rw [It_X2_next]; rfl
theorem I_X2_next_48 : zin zm_X2_next.2.2.2.2.2 48 = some (.putfield 105, 3) := by rw [It_X2_next]; rfl
theorem I_X2_next_51 : zin zm_X2_next.2.2.2.2.2 51 = some (.aload_n 0, 1) := by rw [It_X2_next]; rfl
theorem I_X2_next_52 : zin zm_X2_next.2.2.2.2.2 52 = some (.getfield 25, 3) := by rw [It_X2_next]; rfl
theorem I_X2_next_55 : zin zm_X2_next.2.2.2.2.2 55 = some (.aload_n 0, 1) := by rw [It_X2_next]; rfl
theorem I_X2_next_56 : zin zm_X2_next.2.2.2.2.2 56 = some (.getfield 71, 3) := by rw [It_X2_next]; rfl
theorem I_X2_next_59 : zin zm_X2_next.2.2.2.2.2 59 = some (.if_icmp .lt 9, 3) := by rw [It_X2_next]; rfl
theorem I_X2_next_62 : zin zm_X2_next.2.2.2.2.2 62 = some (.aload_n 0, 1) := by rw [It_X2_next]; rfl
theorem I_X2_next_63 : zin zm_X2_next.2.2.2.2.2 63 = some (.iconst 0, 1) := by rw [It_X2_next]; rfl
theorem I_X2_next_64 : zin zm_X2_next.2.2.2.2.2 64 = some (.putfield 51, 3) := by rw [It_X2_next]; rfl
theorem I_X2_next_67 : zin zm_X2_next.2.2.2.2.2 67 = some (.return_, 1) := by rw [It_X2_next]; rfl
theorem I_X2_next_68 : zin zm_X2_next.2.2.2.2.2 68 = some (.aload_n 0, 1) := by rw [It_X2_next]; rfl
theorem I_X2_next_69 : zin zm_X2_next.2.2.2.2.2 69 = some (.getfield 9, 3) := by rw [It_X2_next]; rfl
theorem I_X2_next_72 : zin zm_X2_next.2.2.2.2.2 72 = some (.aload_n 0, 1) := by rw [It_X2_next]; rfl
theorem I_X2_next_73 : zin zm_X2_next.2.2.2.2.2 73 = some (.getfield 25, 3) := by rw [It_X2_next]; rfl
theorem I_X2_next_76 : zin zm_X2_next.2.2.2.2.2 76 = some (.baload, 1) := by rw [It_X2_next]; rfl
theorem I_X2_next_77 : zin zm_X2_next.2.2.2.2.2 77 = some (.istore_n 1, 1) := by rw [It_X2_next]; rfl
theorem I_X2_next_78 : zin zm_X2_next.2.2.2.2.2 78 = some (.aload_n 0, 1) := by rw [It_X2_next]; rfl
theorem I_X2_next_79 : zin zm_X2_next.2.2.2.2.2 79 = some (.dup, 1) := by rw [It_X2_next]; rfl
theorem I_X2_next_80 : zin zm_X2_next.2.2.2.2.2 80 = some (.getfield 25, 3) := by rw [It_X2_next]; rfl
theorem I_X2_next_83 : zin zm_X2_next.2.2.2.2.2 83 = some (.iconst 1, 1) := by rw [It_X2_next]; rfl
theorem I_X2_next_84 : zin zm_X2_next.2.2.2.2.2 84 = some (.iadd, 1) := by rw [It_X2_next]; rfl
theorem I_X2_next_85 : zin zm_X2_next.2.2.2.2.2 85 = some (.putfield 25, 3) := by rw [It_X2_next]; rfl
theorem I_X2_next_88 : zin zm_X2_next.2.2.2.2.2 88 = some (.iload_n 1, 1) := by rw [It_X2_next]; rfl
theorem I_X2_next_89 : zin zm_X2_next.2.2.2.2.2 89 = some (.invokestatic 121, 3) := by rw [It_X2_next]; rfl
theorem I_X2_next_92 : zin zm_X2_next.2.2.2.2.2 92 = some (.ifCond .eq 50, 3) := by rw [It_X2_next]; rfl
theorem I_X2_next_95 : zin zm_X2_next.2.2.2.2.2 95 = some (.aload_n 0, 1) := by rw [It_X2_next]; rfl
theorem I_X2_next_96 : zin zm_X2_next.2.2.2.2.2 96 = some (.getfield 25, 3) := by rw [It_X2_next]; rfl
theorem I_X2_next_99 : zin zm_X2_next.2.2.2.2.2 99 = some (.aload_n 0, 1) := by rw [It_X2_next]; rfl
theorem I_X2_next_100 : zin zm_X2_next.2.2.2.2.2 100 = some (.getfield 71, 3) := by rw [It_X2_next]; rfl
theorem I_X2_next_103 : zin zm_X2_next.2.2.2.2.2 103 = some (.if_icmp .ge 31, 3) := by rw [It_X2_next]; rfl
theorem I_X2_next_106 : zin zm_X2_next.2.2.2.2.2 106 = some (.aload_n 0, 1) := by rw [It_X2_next]; rfl
theorem I_X2_next_107 : zin zm_X2_next.2.2.2.2.2 107 = some (.getfield 9, 3) := by rw [It_X2_next]; rfl
theorem I_X2_next_110 : zin zm_X2_next.2.2.2.2.2 110 = some (.aload_n 0, 1) := by rw [It_X2_next]; rfl
theorem I_X2_next_111 : zin zm_X2_next.2.2.2.2.2 111 = some (.getfield 25, 3) := by rw [It_X2_next]; rfl
theorem I_X2_next_114 : zin zm_X2_next.2.2.2.2.2 114 = some (.baload, 1) := by rw [It_X2_next]; rfl
theorem I_X2_next_115 : zin zm_X2_next.2.2.2.2.2 115 = some (.invokestatic 121, 3) := by rw [It_X2_next]; rfl
theorem I_X2_next_118 : zin zm_X2_next.2.2.2.2.2 118 = some (.ifCond .eq 16, 3) := by rw [It_X2_next]; rfl
theorem I_X2_next_121 : zin zm_X2_next.2.2.2.2.2 121 = some (.aload_n 0, 1) := by rw [It_X2_next]; rfl
theorem I_X2_next_122 : zin zm_X2_next.2.2.2.2.2 122 = some (.dup, 1) := by rw [It_X2_next]; rfl
theorem I_X2_next_123 : zin zm_X2_next.2.2.2.2.2 123 = some (.getfield 25, 3) := by rw [It_X2_next]; rfl
theorem I_X2_next_126 : zin zm_X2_next.2.2.2.2.2 126 = some (.iconst 1, 1) := by rw [It_X2_next]; rfl
theorem I_X2_next_127 : zin zm_X2_next.2.2.2.2.2 127 = some (.iadd, 1) := by rw [It_X2_next]; rfl
theorem I_X2_next_128 : zin zm_X2_next.2.2.2.2.2 128 = some (.putfield 25, 3) := by rw [It_X2_next]; rfl
theorem I_X2_next_131 : zin zm_X2_next.2.2.2.2.2 131 = some (.goto (-36), 3) := by rw [It_X2_next]; rfl
theorem I_X2_next_134 : zin zm_X2_next.2.2.2.2.2 134 = some (.aload_n 0, 1) := by rw [It_X2_next]; rfl
theorem I_X2_next_135 : zin zm_X2_next.2.2.2.2.2 135 = some (.iconst 1, 1) := by rw [It_X2_next]; rfl
theorem I_X2_next_136 : zin zm_X2_next.2.2.2.2.2 136 = some (.putfield 51, 3) := by rw [It_X2_next]; rfl
theorem I_X2_next_139 : zin zm_X2_next.2.2.2.2.2 139 = some (.goto 121, 3) := by rw [It_X2_next]; rfl
theorem I_X2_next_142 : zin zm_X2_next.2.2.2.2.2 142 = some (.iload_n 1, 1) := by rw [It_X2_next]; rfl
theorem I_X2_next_143 : zin zm_X2_next.2.2.2.2.2 143 = some (.invokestatic 124, 3) := by rw [It_X2_next]; rfl
theorem I_X2_next_146 : zin zm_X2_next.2.2.2.2.2 146 = some (.ifCond .eq 99, 3) := by rw [It_X2_next]; rfl
theorem I_X2_next_149 : zin zm_X2_next.2.2.2.2.2 149 = some (.aload_n 0, 1) := by rw [It_X2_next]; rfl
theorem I_X2_next_150 : zin zm_X2_next.2.2.2.2.2 150 = some (.iload_n 1, 1) := by rw [It_X2_next]; rfl
theorem I_X2_next_151 : zin zm_X2_next.2.2.2.2.2 151 = some (.bipush 48, 2) := by rw [It_X2_next]; rfl
theorem I_X2_next_153 : zin zm_X2_next.2.2.2.2.2 153 = some (.isub, 1) := by rw [It_X2_next]; rfl
theorem I_X2_next_154 : zin zm_X2_next.2.2.2.2.2 154 = some (.putfield 105, 3) := by rw [It_X2_next]; rfl
theorem I_X2_next_157 : zin zm_X2_next.2.2.2.2.2 157 = some (.aload_n 0, 1) := by rw [It_X2_next]; rfl
theorem I_X2_next_158 : zin zm_X2_next.2.2.2.2.2 158 = some (.getfield 25, 3) := by rw [It_X2_next]; rfl
theorem I_X2_next_161 : zin zm_X2_next.2.2.2.2.2 161 = some (.aload_n 0, 1) := by rw [It_X2_next]; rfl
theorem I_X2_next_162 : zin zm_X2_next.2.2.2.2.2 162 = some (.getfield 71, 3) := by rw [It_X2_next]; rfl
theorem I_X2_next_165 : zin zm_X2_next.2.2.2.2.2 165 = some (.if_icmp .ge 55, 3) := by rw [It_X2_next]; rfl
theorem I_X2_next_168 : zin zm_X2_next.2.2.2.2.2 168 = some (.aload_n 0, 1) := by rw [It_X2_next]; rfl
theorem I_X2_next_169 : zin zm_X2_next.2.2.2.2.2 169 = some (.getfield 9, 3) := by rw [It_X2_next]; rfl
theorem I_X2_next_172 : zin zm_X2_next.2.2.2.2.2 172 = some (.aload_n 0, 1) := by rw [It_X2_next]; rfl
theorem I_X2_next_173 : zin zm_X2_next.2.2.2.2.2 173 = some (.getfield 25, 3) := by rw [It_X2_next]; rfl
theorem I_X2_next_176 : zin zm_X2_next.2.2.2.2.2 176 = some (.baload, 1) := by rw [It_X2_next]; rfl
theorem I_X2_next_177 : zin zm_X2_next.2.2.2.2.2 177 = some (.invokestatic 124, 3) := by rw [It_X2_next]; rfl
theorem I_X2_next_180 : zin zm_X2_next.2.2.2.2.2 180 = some (.ifCond .eq 40, 3) := by rw [It_X2_next]; rfl
theorem I_X2_next_183 : zin zm_X2_next.2.2.2.2.2 183 = some (.aload_n 0, 1) := by rw [It_X2_next]; rfl
theorem I_X2_next_184 : zin zm_X2_next.2.2.2.2.2 184 = some (.aload_n 0, 1) := by rw [It_X2_next]; rfl
theorem I_X2_next_185 : zin zm_X2_next.2.2.2.2.2 185 = some (.getfield 105, 3) := by rw [It_X2_next]; rfl
theorem I_X2_next_188 : zin zm_X2_next.2.2.2.2.2 188 = some (.bipush 10, 2) := by rw [It_X2_next]; rfl
theorem I_X2_next_190 : zin zm_X2_next.2.2.2.2.2 190 = some (.imul, 1) := by rw [It_X2_next]; rfl
theorem I_X2_next_191 : zin zm_X2_next.2.2.2.2.2 191 = some (.aload_n 0, 1) := by rw [It_X2_next]; rfl
theorem I_X2_next_192 : zin zm_X2_next.2.2.2.2.2 192 = some (.getfield 9, 3) := by rw [It_X2_next]; rfl
theorem I_X2_next_195 : zin zm_X2_next.2.2.2.2.2 195 = some (.aload_n 0, 1) := by rw [It_X2_next]; rfl
theorem I_X2_next_196 : zin zm_X2_next.2.2.2.2.2 196 = some (.getfield 25, 3) := by rw [It_X2_next]; rfl
theorem I_X2_next_199 : zin zm_X2_next.2.2.2.2.2 199 = some (.baload, 1) := by rw [It_X2_next]; rfl
theorem I_X2_next_200 : zin zm_X2_next.2.2.2.2.2 200 = some (.iadd, 1) := by rw [It_X2_next]; rfl
theorem I_X2_next_201 : zin zm_X2_next.2.2.2.2.2 201 = some (.bipush 48, 2) := by rw [It_X2_next]; rfl
theorem I_X2_next_203 : zin zm_X2_next.2.2.2.2.2 203 = some (.isub, 1) := by rw [It_X2_next]; rfl
theorem I_X2_next_204 : zin zm_X2_next.2.2.2.2.2 204 = some (.putfield 105, 3) := by rw [It_X2_next]; rfl
theorem I_X2_next_207 : zin zm_X2_next.2.2.2.2.2 207 = some (.aload_n 0, 1) := by rw [It_X2_next]; rfl
theorem I_X2_next_208 : zin zm_X2_next.2.2.2.2.2 208 = some (.dup, 1) := by rw [It_X2_next]; rfl
theorem I_X2_next_209 : zin zm_X2_next.2.2.2.2.2 209 = some (.getfield 25, 3) := by rw [It_X2_next]; rfl
theorem I_X2_next_212 : zin zm_X2_next.2.2.2.2.2 212 = some (.iconst 1, 1) := by rw [It_X2_next]; rfl
theorem I_X2_next_213 : zin zm_X2_next.2.2.2.2.2 213 = some (.iadd, 1) := by rw [It_X2_next]; rfl
theorem I_X2_next_214 : zin zm_X2_next.2.2.2.2.2 214 = some (.putfield 25, 3) := by rw [It_X2_next]; rfl
theorem I_X2_next_217 : zin zm_X2_next.2.2.2.2.2 217 = some (.goto (-60), 3) := by rw [It_X2_next]; rfl
theorem I_X2_next_220 : zin zm_X2_next.2.2.2.2.2 220 = some (.aload_n 0, 1) := by rw [It_X2_next]; rfl
theorem I_X2_next_221 : zin zm_X2_next.2.2.2.2.2 221 = some (.aload_n 0, 1) := by rw [It_X2_next]; rfl
theorem I_X2_next_222 : zin zm_X2_next.2.2.2.2.2 222 = some (.getfield 25, 3) := by rw [It_X2_next]; rfl
theorem I_X2_next_225 : zin zm_X2_next.2.2.2.2.2 225 = some (.aload_n 0, 1) := by rw [It_X2_next]; rfl
theorem I_X2_next_226 : zin zm_X2_next.2.2.2.2.2 226 = some (.getfield 102, 3) := by rw [It_X2_next]; rfl
theorem I_X2_next_229 : zin zm_X2_next.2.2.2.2.2 229 = some (.isub, 1) := by rw [It_X2_next]; rfl
theorem I_X2_next_230 : zin zm_X2_next.2.2.2.2.2 230 = some (.iconst 2, 1) := by rw [It_X2_next]; rfl
theorem I_X2_next_231 : zin zm_X2_next.2.2.2.2.2 231 = some (.if_icmp .le 7, 3) := by rw [It_X2_next]; rfl
theorem I_X2_next_234 : zin zm_X2_next.2.2.2.2.2 234 = some (.iconst 4, 1) := by rw [It_X2_next]; rfl
theorem I_X2_next_235 : zin zm_X2_next.2.2.2.2.2 235 = some (.goto 4, 3) := by rw [It_X2_next]; rfl
theorem I_X2_next_238 : zin zm_X2_next.2.2.2.2.2 238 = some (.iconst 2, 1) := by rw [It_X2_next]; rfl
theorem I_X2_next_239 : zin zm_X2_next.2.2.2.2.2 239 = some (.putfield 51, 3) := by rw [It_X2_next]; rfl
theorem I_X2_next_242 : zin zm_X2_next.2.2.2.2.2 242 = some (.goto 18, 3) := by rw [It_X2_next]; rfl
theorem I_X2_next_245 : zin zm_X2_next.2.2.2.2.2 245 = some (.aload_n 0, 1) := by rw [It_X2_next]; rfl
theorem I_X2_next_246 : zin zm_X2_next.2.2.2.2.2 246 = some (.iload_n 1, 1) := by rw [It_X2_next]; rfl
theorem I_X2_next_247 : zin zm_X2_next.2.2.2.2.2 247 = some (.bipush 59, 2) := by rw [It_X2_next]; rfl
theorem I_X2_next_249 : zin zm_X2_next.2.2.2.2.2 249 = some (.if_icmp .ne 7, 3) := by rw [It_X2_next]; rfl
theorem I_X2_next_252 : zin zm_X2_next.2.2.2.2.2 252 = some (.iconst 3, 1) := by rw [It_X2_next]; rfl
theorem I_X2_next_253 : zin zm_X2_next.2.2.2.2.2 253 = some (.goto 4, 3) := by rw [It_X2_next]; rfl
theorem I_X2_next_256 : zin zm_X2_next.2.2.2.2.2 256 = some (.iconst 4, 1) := by rw [It_X2_next]; rfl
theorem I_X2_next_257 : zin zm_X2_next.2.2.2.2.2 257 = some (.putfield 51, 3) := by rw [It_X2_next]; rfl
theorem I_X2_next_260 : zin zm_X2_next.2.2.2.2.2 260 = some (.return_, 1) := by rw [It_X2_next]; rfl
theorem G_2_9 : zlk zfls 2 9 = some (2, 0, 151) := rfl
theorem G_2_25 : zlk zfls 2 25 = some (2, 6, 163) := rfl
theorem G_2_51 : zlk zfls 2 51 = some (2, 7, 164) := rfl
theorem G_2_71 : zlk zfls 2 71 = some (2, 2, 156) := rfl
theorem G_2_102 : zlk zfls 2 102 = some (2, 8, 165) := rfl
theorem G_2_105 : zlk zfls 2 105 = some (2, 9, 166) := rfl
theorem K_2_121 : zlk zmls 2 121 = some (1, 38, 1, 351) := rfl
theorem K_2_124 : zlk zmls 2 124 = some (1, 39, 1, 354) := rfl
theorem Zm_38 : zms[38]? = some zm_X2_isLetter := rfl
theorem Zm_39 : zms[39]? = some zm_X2_isFigure := rfl
theorem LY_1 : zLY[1]? = some (Sum.inr 2, [some (.ref 2), some (.ref 3), none, none, none, none, none, none, none, none, none, none, none]) := rfl
theorem LY_2 : zLY[2]? = some (Sum.inl 1, List.replicate 160 none) := rfl
theorem cl_X2_next : zm_X2_next.2.2.2.2.1 = 2 := by
  unfold zm_X2_next
  rfl
theorem cn_X2_next : zm_X2_next.2.2.2.2.1 ≠ 12 := by
  rw [cl_X2_next]
  decide
/-- the first place from p on that is past the tape or not of this kind -/
def tB (f : Int32 → Bool) (t : Nat → Int32) (n : Nat) : Nat → Nat → Nat
  | 0, p => p
  | k + 1, p => if p < n ∧ f (t p) = true then tB f t n k (p + 1) else p
def tE (f : Int32 → Bool) (t : Nat → Int32) (n p : Nat) : Nat := tB f t n (n - p) p
theorem tE_out {f : Int32 → Bool} {t : Nat → Int32} {n p : Nat} (h : n ≤ p) : tE f t n p = p := by
  unfold tE
  rw [Nat.sub_eq_zero_of_le h]
  rfl
theorem tE_no {f : Int32 → Bool} {t : Nat → Int32} {n p : Nat} (h : f (t p) = false) : tE f t n p = p := by
  unfold tE
  cases n - p with
  | zero => rfl
  | succ k => simp [tB, h]
theorem tE_yes {f : Int32 → Bool} {t : Nat → Int32} {n p : Nat} (h1 : p < n) (h2 : f (t p) = true) : tE f t n p = tE f t n (p + 1) := by
  unfold tE
  obtain ⟨k, hk⟩ : ∃ k, n - p = k + 1 := ⟨n - p - 1, by omega⟩
  rw [hk, show n - (p + 1) = k by omega]
  simp [tB, h1, h2]
theorem tB_ge {f : Int32 → Bool} {t : Nat → Int32} {n : Nat} : ∀ (k p : Nat), p ≤ tB f t n k p
  | 0, p => Nat.le_refl p
  | k + 1, p => by
    simp only [tB]
    split
    · exact Nat.le_trans (Nat.le_succ p) (tB_ge k (p + 1))
    · exact Nat.le_refl p
theorem tE_ge {f : Int32 → Bool} {t : Nat → Int32} {n p : Nat} : p ≤ tE f t n p := tB_ge _ _
theorem tB_le {f : Int32 → Bool} {t : Nat → Int32} {n : Nat} : ∀ (k p : Nat), p ≤ n → tB f t n k p ≤ n
  | 0, p, h => h
  | k + 1, p, h => by
    simp only [tB]
    split
    · rename_i hh
      exact tB_le k (p + 1) hh.1
    · exact h
theorem tE_le {f : Int32 → Bool} {t : Nat → Int32} {n p : Nat} (h : p ≤ n) : tE f t n p ≤ n := tB_le _ _ h
theorem tB_cg {f : Int32 → Bool} {t u : Nat → Int32} {n : Nat} (h : ∀ i, i < n → t i = u i) : ∀ (k p : Nat), tB f t n k p = tB f u n k p
  | 0, p => rfl
  | k + 1, p => by
    simp only [tB]
    by_cases hp : p < n
    · rw [h p hp, tB_cg h k (p + 1)]
    · simp [hp]
def zsp (c : Int32) : Bool := decide (c = 32)
def zlt (c : Int32) : Bool := decide (¬ c < 97) && decide (¬ 122 < c)
def zdg (c : Int32) : Bool := decide (¬ c < 48) && decide (¬ 57 < c)
def tS (t : Nat → Int32) (n p : Nat) : Nat := tE zsp t n p
/-- a token's kind: 0 the end, 1 a name, 2 a number, 3 a stop, 4 broken -/
def tKs (t : Nat → Int32) (n s : Nat) : Int32 := if n ≤ s then 0 else if zlt (t s) = true then 1 else if zdg (t s) = true then (if 2 < tE zdg t n (s + 1) - s then 4 else 2) else if t s = 59 then 3 else 4
def tNs (t : Nat → Int32) (n s : Nat) : Nat := if n ≤ s then s else if zlt (t s) = true then tE zlt t n (s + 1) else if zdg (t s) = true then tE zdg t n (s + 1) else s + 1
def tVs (t : Nat → Int32) (n s : Nat) : Int32 := if zdg (t s) = true then (if tE zdg t n (s + 1) = s + 1 then t s - 48 else (t s - 48) * 10 + t (s + 1) - 48) else 0
def tK (t : Nat → Int32) (n p : Nat) : Int32 := tKs t n (tS t n p)
def tN (t : Nat → Int32) (n p : Nat) : Nat := tNs t n (tS t n p)
def tV (t : Nat → Int32) (n p : Nat) : Int32 := tVs t n (tS t n p)
theorem zofn_1 {i : Nat} : Int32.ofNat i + 1 = Int32.ofNat (i + 1) := by
  rw [Int32.ofNat_add]
  rfl
/-- the four places that reading a token writes -/
def zf69 (m m1 : zM) : Prop := ∀ a b, ¬ (a = 1 ∧ 6 ≤ b ∧ b ≤ 9) → m1 a b = m a b
theorem t_X2_isLetter {d : Nat} {m : zM} {r : Option Value} {h' : zHp} {c : Int32}  (H : zE none d zm_X2_isLetter 0 [.int c] [] m r h') : r = some (.int (if zlt c = true then 1 else 0)) ∧ h' = zhp m := by
  replace H := i_iln (q := 1) H I_X2_isLetter_0 rfl rfl
  replace H := i_bip (x := 97) (q := 3) H I_X2_isLetter_1 (by decide) rfl
  have W := i_ic_lt (t := 16) (q := 6) H I_X2_isLetter_3 (by decide) rfl
  clear H
  rcases W with ⟨c_3, H⟩ | ⟨c_3, H⟩
  · skip
    replace H := i_icst (x := 0) (q := 17) H I_X2_isLetter_16 (by decide) rfl
    obtain ⟨hr, hh⟩ := i_ir H I_X2_isLetter_17
    refine ⟨hr.trans ?_, hh⟩
    simp [zlt, *]
  · skip
    replace H := i_iln (q := 7) H I_X2_isLetter_6 rfl rfl
    replace H := i_bip (x := 122) (q := 9) H I_X2_isLetter_7 (by decide) rfl
    have W := i_ic_gt (t := 16) (q := 12) H I_X2_isLetter_9 (by decide) rfl
    clear H
    rcases W with ⟨c_9, H⟩ | ⟨c_9, H⟩
    · skip
      replace H := i_icst (x := 0) (q := 17) H I_X2_isLetter_16 (by decide) rfl
      obtain ⟨hr, hh⟩ := i_ir H I_X2_isLetter_17
      refine ⟨hr.trans ?_, hh⟩
      simp [zlt, *]
    · skip
      replace H := i_icst (x := 1) (q := 13) H I_X2_isLetter_12 (by decide) rfl
      replace H := i_goto (q := 17) H I_X2_isLetter_13 (by decide)
      obtain ⟨hr, hh⟩ := i_ir H I_X2_isLetter_17
      refine ⟨hr.trans ?_, hh⟩
      simp [zlt, *]
theorem t_X2_isFigure {d : Nat} {m : zM} {r : Option Value} {h' : zHp} {c : Int32}  (H : zE none d zm_X2_isFigure 0 [.int c] [] m r h') : r = some (.int (if zdg c = true then 1 else 0)) ∧ h' = zhp m := by
  replace H := i_iln (q := 1) H I_X2_isFigure_0 rfl rfl
  replace H := i_bip (x := 48) (q := 3) H I_X2_isFigure_1 (by decide) rfl
  have W := i_ic_lt (t := 16) (q := 6) H I_X2_isFigure_3 (by decide) rfl
  clear H
  rcases W with ⟨c_3, H⟩ | ⟨c_3, H⟩
  · skip
    replace H := i_icst (x := 0) (q := 17) H I_X2_isFigure_16 (by decide) rfl
    obtain ⟨hr, hh⟩ := i_ir H I_X2_isFigure_17
    refine ⟨hr.trans ?_, hh⟩
    simp [zdg, *]
  · skip
    replace H := i_iln (q := 7) H I_X2_isFigure_6 rfl rfl
    replace H := i_bip (x := 57) (q := 9) H I_X2_isFigure_7 (by decide) rfl
    have W := i_ic_gt (t := 16) (q := 12) H I_X2_isFigure_9 (by decide) rfl
    clear H
    rcases W with ⟨c_9, H⟩ | ⟨c_9, H⟩
    · skip
      replace H := i_icst (x := 0) (q := 17) H I_X2_isFigure_16 (by decide) rfl
      obtain ⟨hr, hh⟩ := i_ir H I_X2_isFigure_17
      refine ⟨hr.trans ?_, hh⟩
      simp [zdg, *]
    · skip
      replace H := i_icst (x := 1) (q := 13) H I_X2_isFigure_12 (by decide) rfl
      replace H := i_goto (q := 17) H I_X2_isFigure_13 (by decide)
      obtain ⟨hr, hh⟩ := i_ir H I_X2_isFigure_17
      refine ⟨hr.trans ?_, hh⟩
      simp [zdg, *]

theorem nx_blank : ∀ (j n p : Nat) (m : zM) (d : Nat) (r : Option Value) (h' : zHp) , n - p = j → m 1 2 = Int32.ofNat n → n ≤ 160 → m 1 6 = Int32.ofNat p → p ≤ n → zE none d zm_X2_next 0 [.ref 1, .null] [] m r h' → ∃ m1, zE none d zm_X2_next 38 [.ref 1, .null] [] m1 r h' ∧ m1 1 6 = Int32.ofNat (tE zsp (m 2) n p) ∧ ∀ a b, ¬ (a = 1 ∧ b = 6) → m1 a b = m a b := by
  intro j
  induction j with
  | zero =>
    intro n p m d r h'  hj hn hn2 hp hpn H
    have e : p = n := by omega
    subst e
    replace H := i_aln (q := 1) H I_X2_next_0 rfl rfl
    replace H := i_gfi (q := 4) H I_X2_next_1 G_2_25 cn_X2_next LY_1 rfl rfl
    replace H := i_aln (q := 5) H I_X2_next_4 rfl rfl
    replace H := i_gfi (q := 8) H I_X2_next_5 G_2_71 cn_X2_next LY_1 rfl rfl
    have W := i_ic_ge (t := 38) (q := 11) H I_X2_next_8 (by decide) rfl
    clear H
    rcases W with ⟨c_8, H⟩ | ⟨c_8, H⟩
    · skip
      refine ⟨m, H, ?_, fun a b _ => rfl⟩
      rw [tE_out (by omega), hp]
    · skip
      replace H := i_aln (q := 12) H I_X2_next_11 rfl rfl
      replace H := i_gfr (q := 15) H I_X2_next_12 G_2_9 cn_X2_next LY_1 rfl rfl
      replace H := i_aln (q := 16) H I_X2_next_15 rfl rfl
      replace H := i_gfi (q := 19) H I_X2_next_16 G_2_25 cn_X2_next LY_1 rfl rfl
      have W := i_ba (q := 20) H I_X2_next_19 LY_2 rfl
      clear H
      obtain ⟨i_19, bi_19, ei_19, H⟩ := W
      replace H := i_bip (x := 32) (q := 22) H I_X2_next_20 (by decide) rfl
      have W := i_ic_ne (t := 38) (q := 25) H I_X2_next_22 (by decide) rfl
      clear H
      rcases W with ⟨c_22, H⟩ | ⟨c_22, H⟩
      · skip
        exfalso
        rw [hp, hn] at c_8
        exact absurd ((zofn_lt (by omega) (by omega)).mp c_8) (by omega)
      · skip
        replace H := i_aln (q := 26) H I_X2_next_25 rfl rfl
        replace H := i_dup (q := 27) H I_X2_next_26 rfl rfl
        replace H := i_gfi (q := 30) H I_X2_next_27 G_2_25 cn_X2_next LY_1 rfl rfl
        replace H := i_icst (x := 1) (q := 31) H I_X2_next_30 (by decide) rfl
        replace H := i_iadd (q := 32) H I_X2_next_31 rfl
        replace H := i_pf (q := 35) H I_X2_next_32 G_2_25 cn_X2_next LY_1 rfl rfl
        replace H := i_goto (q := 0) H I_X2_next_35 (by decide)
        exfalso
        rw [hp, hn] at c_8
        exact absurd ((zofn_lt (by omega) (by omega)).mp c_8) (by omega)
  | succ j ih =>
    intro n p m d r h'  hj hn hn2 hp hpn H
    replace H := i_aln (q := 1) H I_X2_next_0 rfl rfl
    replace H := i_gfi (q := 4) H I_X2_next_1 G_2_25 cn_X2_next LY_1 rfl rfl
    replace H := i_aln (q := 5) H I_X2_next_4 rfl rfl
    replace H := i_gfi (q := 8) H I_X2_next_5 G_2_71 cn_X2_next LY_1 rfl rfl
    have W := i_ic_ge (t := 38) (q := 11) H I_X2_next_8 (by decide) rfl
    clear H
    rcases W with ⟨c_8, H⟩ | ⟨c_8, H⟩
    · skip
      exfalso
      rw [hp, hn] at c_8
      exact c_8 ((zofn_lt (by omega) (by omega)).mpr (by omega))
    · skip
      replace H := i_aln (q := 12) H I_X2_next_11 rfl rfl
      replace H := i_gfr (q := 15) H I_X2_next_12 G_2_9 cn_X2_next LY_1 rfl rfl
      replace H := i_aln (q := 16) H I_X2_next_15 rfl rfl
      replace H := i_gfi (q := 19) H I_X2_next_16 G_2_25 cn_X2_next LY_1 rfl rfl
      have W := i_ba (q := 20) H I_X2_next_19 LY_2 rfl
      clear H
      obtain ⟨i_19, bi_19, ei_19, H⟩ := W
      replace H := i_bip (x := 32) (q := 22) H I_X2_next_20 (by decide) rfl
      have W := i_ic_ne (t := 38) (q := 25) H I_X2_next_22 (by decide) rfl
      clear H
      rcases W with ⟨c_22, H⟩ | ⟨c_22, H⟩
      · skip
        have hi : i_19 = p := (zofn (ei_19.symm.trans hp) (by omega) (by omega))
        subst hi
        refine ⟨m, H, ?_, fun a b _ => rfl⟩
        rw [tE_no (by simp [zsp, c_22]), hp]
      · skip
        replace H := i_aln (q := 26) H I_X2_next_25 rfl rfl
        replace H := i_dup (q := 27) H I_X2_next_26 rfl rfl
        replace H := i_gfi (q := 30) H I_X2_next_27 G_2_25 cn_X2_next LY_1 rfl rfl
        replace H := i_icst (x := 1) (q := 31) H I_X2_next_30 (by decide) rfl
        replace H := i_iadd (q := 32) H I_X2_next_31 rfl
        replace H := i_pf (q := 35) H I_X2_next_32 G_2_25 cn_X2_next LY_1 rfl rfl
        replace H := i_goto (q := 0) H I_X2_next_35 (by decide)
        have hi : i_19 = p := (zofn (ei_19.symm.trans hp) (by omega) (by omega))
        subst hi
        obtain ⟨m1, H1, h1, h2⟩ := ih n (i_19 + 1) _ d r h'  (by omega) (by simpa [zup] using hn) hn2 (by rw [zup_s, hp, zofn_1]) (by rw [hp, hn] at c_8; have := (zofn_lt (by omega) (by omega)).mp c_8; omega) H
        refine ⟨m1, H1, ?_, fun a b hab => ?_⟩
        · rw [h1, tE_yes (f := zsp) (p := i_19) (by rw [hp, hn] at c_8; exact (zofn_lt (by omega) (by omega)).mp c_8) (by simp [zsp, c_22])]
          rfl
        · rw [h2 a b hab]
          exact zup_n hab

theorem nx_name : ∀ (j n p : Nat) (m : zM) (d : Nat) (r : Option Value) (h' : zHp) (c : Int32), n - p = j → m 1 2 = Int32.ofNat n → n ≤ 160 → m 1 6 = Int32.ofNat p → p ≤ n → zE none d zm_X2_next 95 [.ref 1, .int c] [] m r h' → ∃ m1, zE none d zm_X2_next 134 [.ref 1, .int c] [] m1 r h' ∧ m1 1 6 = Int32.ofNat (tE zlt (m 2) n p) ∧ ∀ a b, ¬ (a = 1 ∧ b = 6) → m1 a b = m a b := by
  intro j
  induction j with
  | zero =>
    intro n p m d r h' c hj hn hn2 hp hpn H
    have e : p = n := by omega
    subst e
    replace H := i_aln (q := 96) H I_X2_next_95 rfl rfl
    replace H := i_gfi (q := 99) H I_X2_next_96 G_2_25 cn_X2_next LY_1 rfl rfl
    replace H := i_aln (q := 100) H I_X2_next_99 rfl rfl
    replace H := i_gfi (q := 103) H I_X2_next_100 G_2_71 cn_X2_next LY_1 rfl rfl
    have W := i_ic_ge (t := 134) (q := 106) H I_X2_next_103 (by decide) rfl
    clear H
    rcases W with ⟨c_103, H⟩ | ⟨c_103, H⟩
    · skip
      refine ⟨m, H, ?_, fun a b _ => rfl⟩
      rw [tE_out (by omega), hp]
    · skip
      replace H := i_aln (q := 107) H I_X2_next_106 rfl rfl
      replace H := i_gfr (q := 110) H I_X2_next_107 G_2_9 cn_X2_next LY_1 rfl rfl
      replace H := i_aln (q := 111) H I_X2_next_110 rfl rfl
      replace H := i_gfi (q := 114) H I_X2_next_111 G_2_25 cn_X2_next LY_1 rfl rfl
      have W := i_ba (q := 115) H I_X2_next_114 LY_2 rfl
      clear H
      obtain ⟨i_114, bi_114, ei_114, H⟩ := W
      have W := i_cs1 0 (q := 118) H I_X2_next_115 K_2_121 Zm_38 rfl rfl
      clear H
      obtain ⟨r1, h1, Hc, K1, K2⟩ := W
      obtain ⟨e1, e2⟩ := t_X2_isLetter Hc
      have H := K1 _ _ e1 e2
      clear e1 e2 Hc K1 K2
      have W := i_if_eq (t := 134) (q := 121) H I_X2_next_118 (by decide) rfl
      clear H
      rcases W with ⟨c_118, H⟩ | ⟨c_118, H⟩
      · skip
        exfalso
        rw [hp, hn] at c_103
        exact absurd ((zofn_lt (by omega) (by omega)).mp c_103) (by omega)
      · skip
        replace H := i_aln (q := 122) H I_X2_next_121 rfl rfl
        replace H := i_dup (q := 123) H I_X2_next_122 rfl rfl
        replace H := i_gfi (q := 126) H I_X2_next_123 G_2_25 cn_X2_next LY_1 rfl rfl
        replace H := i_icst (x := 1) (q := 127) H I_X2_next_126 (by decide) rfl
        replace H := i_iadd (q := 128) H I_X2_next_127 rfl
        replace H := i_pf (q := 131) H I_X2_next_128 G_2_25 cn_X2_next LY_1 rfl rfl
        replace H := i_goto (q := 95) H I_X2_next_131 (by decide)
        exfalso
        rw [hp, hn] at c_103
        exact absurd ((zofn_lt (by omega) (by omega)).mp c_103) (by omega)
  | succ j ih =>
    intro n p m d r h' c hj hn hn2 hp hpn H
    replace H := i_aln (q := 96) H I_X2_next_95 rfl rfl
    replace H := i_gfi (q := 99) H I_X2_next_96 G_2_25 cn_X2_next LY_1 rfl rfl
    replace H := i_aln (q := 100) H I_X2_next_99 rfl rfl
    replace H := i_gfi (q := 103) H I_X2_next_100 G_2_71 cn_X2_next LY_1 rfl rfl
    have W := i_ic_ge (t := 134) (q := 106) H I_X2_next_103 (by decide) rfl
    clear H
    rcases W with ⟨c_103, H⟩ | ⟨c_103, H⟩
    · skip
      exfalso
      rw [hp, hn] at c_103
      exact c_103 ((zofn_lt (by omega) (by omega)).mpr (by omega))
    · skip
      replace H := i_aln (q := 107) H I_X2_next_106 rfl rfl
      replace H := i_gfr (q := 110) H I_X2_next_107 G_2_9 cn_X2_next LY_1 rfl rfl
      replace H := i_aln (q := 111) H I_X2_next_110 rfl rfl
      replace H := i_gfi (q := 114) H I_X2_next_111 G_2_25 cn_X2_next LY_1 rfl rfl
      have W := i_ba (q := 115) H I_X2_next_114 LY_2 rfl
      clear H
      obtain ⟨i_114, bi_114, ei_114, H⟩ := W
      have W := i_cs1 0 (q := 118) H I_X2_next_115 K_2_121 Zm_38 rfl rfl
      clear H
      obtain ⟨r1, h1, Hc, K1, K2⟩ := W
      obtain ⟨e1, e2⟩ := t_X2_isLetter Hc
      have H := K1 _ _ e1 e2
      clear e1 e2 Hc K1 K2
      have W := i_if_eq (t := 134) (q := 121) H I_X2_next_118 (by decide) rfl
      clear H
      rcases W with ⟨c_118, H⟩ | ⟨c_118, H⟩
      · skip
        have hi : i_114 = p := (zofn (ei_114.symm.trans hp) (by omega) (by omega))
        subst hi
        refine ⟨m, H, ?_, fun a b _ => rfl⟩
        rw [tE_no (by simpa using c_118), hp]
      · skip
        replace H := i_aln (q := 122) H I_X2_next_121 rfl rfl
        replace H := i_dup (q := 123) H I_X2_next_122 rfl rfl
        replace H := i_gfi (q := 126) H I_X2_next_123 G_2_25 cn_X2_next LY_1 rfl rfl
        replace H := i_icst (x := 1) (q := 127) H I_X2_next_126 (by decide) rfl
        replace H := i_iadd (q := 128) H I_X2_next_127 rfl
        replace H := i_pf (q := 131) H I_X2_next_128 G_2_25 cn_X2_next LY_1 rfl rfl
        replace H := i_goto (q := 95) H I_X2_next_131 (by decide)
        have hi : i_114 = p := (zofn (ei_114.symm.trans hp) (by omega) (by omega))
        subst hi
        obtain ⟨m1, H1, h1, h2⟩ := ih n (i_114 + 1) _ d r h' c (by omega) (by simpa [zup] using hn) hn2 (by rw [zup_s, hp, zofn_1]) (by rw [hp, hn] at c_103; have := (zofn_lt (by omega) (by omega)).mp c_103; omega) H
        refine ⟨m1, H1, ?_, fun a b hab => ?_⟩
        · rw [h1, tE_yes (f := zlt) (p := i_114) (by rw [hp, hn] at c_103; exact (zofn_lt (by omega) (by omega)).mp c_103) (by simpa using c_118)]
          rfl
        · rw [h2 a b hab]
          exact zup_n hab
theorem nx_dig : ∀ (j n p s : Nat) (m : zM) (d : Nat) (r : Option Value) (h' : zHp) (c : Int32), n - p = j → m 1 2 = Int32.ofNat n → n ≤ 160 → m 1 6 = Int32.ofNat p → p ≤ n → s < p → m 1 8 = Int32.ofNat s → (p = s + 1 → m 1 9 = m 2 s - 48) → (p = s + 2 → m 1 9 = (m 2 s - 48) * 10 + m 2 (s + 1) - 48) → zE none d zm_X2_next 157 [.ref 1, .int c] [] m r h' → ∃ m1, zE none d zm_X2_next 220 [.ref 1, .int c] [] m1 r h' ∧ m1 1 6 = Int32.ofNat (tE zdg (m 2) n p) ∧ (tE zdg (m 2) n p = s + 1 → m1 1 9 = m 2 s - 48) ∧ (tE zdg (m 2) n p = s + 2 → m1 1 9 = (m 2 s - 48) * 10 + m 2 (s + 1) - 48) ∧ ∀ a b, ¬ (a = 1 ∧ (b = 6 ∨ b = 9)) → m1 a b = m a b := by
  intro j
  induction j with
  | zero =>
    intro n p s m d r h' c hj hn hn2 hp hpn hsp hs hv1 hv2 H
    have e : p = n := by omega
    subst e
    replace H := i_aln (q := 158) H I_X2_next_157 rfl rfl
    replace H := i_gfi (q := 161) H I_X2_next_158 G_2_25 cn_X2_next LY_1 rfl rfl
    replace H := i_aln (q := 162) H I_X2_next_161 rfl rfl
    replace H := i_gfi (q := 165) H I_X2_next_162 G_2_71 cn_X2_next LY_1 rfl rfl
    have W := i_ic_ge (t := 220) (q := 168) H I_X2_next_165 (by decide) rfl
    clear H
    rcases W with ⟨c_165, H⟩ | ⟨c_165, H⟩
    · skip
      exact ⟨m, H, by rw [tE_out (by omega), hp], by rw [tE_out (by omega)]; exact hv1, by rw [tE_out (by omega)]; exact hv2, fun a b _ => rfl⟩
    · skip
      replace H := i_aln (q := 169) H I_X2_next_168 rfl rfl
      replace H := i_gfr (q := 172) H I_X2_next_169 G_2_9 cn_X2_next LY_1 rfl rfl
      replace H := i_aln (q := 173) H I_X2_next_172 rfl rfl
      replace H := i_gfi (q := 176) H I_X2_next_173 G_2_25 cn_X2_next LY_1 rfl rfl
      have W := i_ba (q := 177) H I_X2_next_176 LY_2 rfl
      clear H
      obtain ⟨i_176, bi_176, ei_176, H⟩ := W
      have W := i_cs1 0 (q := 180) H I_X2_next_177 K_2_124 Zm_39 rfl rfl
      clear H
      obtain ⟨r1, h1, Hc, K1, K2⟩ := W
      obtain ⟨e1, e2⟩ := t_X2_isFigure Hc
      have H := K1 _ _ e1 e2
      clear e1 e2 Hc K1 K2
      have W := i_if_eq (t := 220) (q := 183) H I_X2_next_180 (by decide) rfl
      clear H
      rcases W with ⟨c_180, H⟩ | ⟨c_180, H⟩
      · skip
        exfalso
        rw [hp, hn] at c_165
        exact absurd ((zofn_lt (by omega) (by omega)).mp c_165) (by omega)
      · skip
        replace H := i_aln (q := 184) H I_X2_next_183 rfl rfl
        replace H := i_aln (q := 185) H I_X2_next_184 rfl rfl
        replace H := i_gfi (q := 188) H I_X2_next_185 G_2_105 cn_X2_next LY_1 rfl rfl
        replace H := i_bip (x := 10) (q := 190) H I_X2_next_188 (by decide) rfl
        replace H := i_imul (q := 191) H I_X2_next_190 rfl
        replace H := i_aln (q := 192) H I_X2_next_191 rfl rfl
        replace H := i_gfr (q := 195) H I_X2_next_192 G_2_9 cn_X2_next LY_1 rfl rfl
        replace H := i_aln (q := 196) H I_X2_next_195 rfl rfl
        replace H := i_gfi (q := 199) H I_X2_next_196 G_2_25 cn_X2_next LY_1 rfl rfl
        have W := i_ba (q := 200) H I_X2_next_199 LY_2 rfl
        clear H
        obtain ⟨i_199, bi_199, ei_199, H⟩ := W
        replace H := i_iadd (q := 201) H I_X2_next_200 rfl
        replace H := i_bip (x := 48) (q := 203) H I_X2_next_201 (by decide) rfl
        replace H := i_isub (q := 204) H I_X2_next_203 rfl
        replace H := i_pf (q := 207) H I_X2_next_204 G_2_105 cn_X2_next LY_1 rfl rfl
        replace H := i_aln (q := 208) H I_X2_next_207 rfl rfl
        replace H := i_dup (q := 209) H I_X2_next_208 rfl rfl
        replace H := i_gfi (q := 212) H I_X2_next_209 G_2_25 cn_X2_next LY_1 rfl rfl
        replace H := i_icst (x := 1) (q := 213) H I_X2_next_212 (by decide) rfl
        replace H := i_iadd (q := 214) H I_X2_next_213 rfl
        replace H := i_pf (q := 217) H I_X2_next_214 G_2_25 cn_X2_next LY_1 rfl rfl
        replace H := i_goto (q := 157) H I_X2_next_217 (by decide)
        exfalso
        rw [hp, hn] at c_165
        exact absurd ((zofn_lt (by omega) (by omega)).mp c_165) (by omega)
  | succ j ih =>
    intro n p s m d r h' c hj hn hn2 hp hpn hsp hs hv1 hv2 H
    replace H := i_aln (q := 158) H I_X2_next_157 rfl rfl
    replace H := i_gfi (q := 161) H I_X2_next_158 G_2_25 cn_X2_next LY_1 rfl rfl
    replace H := i_aln (q := 162) H I_X2_next_161 rfl rfl
    replace H := i_gfi (q := 165) H I_X2_next_162 G_2_71 cn_X2_next LY_1 rfl rfl
    have W := i_ic_ge (t := 220) (q := 168) H I_X2_next_165 (by decide) rfl
    clear H
    rcases W with ⟨c_165, H⟩ | ⟨c_165, H⟩
    · skip
      exfalso
      rw [hp, hn] at c_165
      exact c_165 ((zofn_lt (by omega) (by omega)).mpr (by omega))
    · skip
      replace H := i_aln (q := 169) H I_X2_next_168 rfl rfl
      replace H := i_gfr (q := 172) H I_X2_next_169 G_2_9 cn_X2_next LY_1 rfl rfl
      replace H := i_aln (q := 173) H I_X2_next_172 rfl rfl
      replace H := i_gfi (q := 176) H I_X2_next_173 G_2_25 cn_X2_next LY_1 rfl rfl
      have W := i_ba (q := 177) H I_X2_next_176 LY_2 rfl
      clear H
      obtain ⟨i_176, bi_176, ei_176, H⟩ := W
      have W := i_cs1 0 (q := 180) H I_X2_next_177 K_2_124 Zm_39 rfl rfl
      clear H
      obtain ⟨r1, h1, Hc, K1, K2⟩ := W
      obtain ⟨e1, e2⟩ := t_X2_isFigure Hc
      have H := K1 _ _ e1 e2
      clear e1 e2 Hc K1 K2
      have W := i_if_eq (t := 220) (q := 183) H I_X2_next_180 (by decide) rfl
      clear H
      rcases W with ⟨c_180, H⟩ | ⟨c_180, H⟩
      · skip
        have hi : i_176 = p := (zofn (ei_176.symm.trans hp) (by omega) (by omega))
        subst hi
        have hlt : i_176 < n := by rw [hp, hn] at c_165; exact (zofn_lt (by omega) (by omega)).mp c_165
        have hd : zdg (m 2 i_176) = false := by simpa using c_180
        exact ⟨m, H, by rw [tE_no hd, hp], by rw [tE_no hd]; exact hv1, by rw [tE_no hd]; exact hv2, fun a b _ => rfl⟩
      · skip
        replace H := i_aln (q := 184) H I_X2_next_183 rfl rfl
        replace H := i_aln (q := 185) H I_X2_next_184 rfl rfl
        replace H := i_gfi (q := 188) H I_X2_next_185 G_2_105 cn_X2_next LY_1 rfl rfl
        replace H := i_bip (x := 10) (q := 190) H I_X2_next_188 (by decide) rfl
        replace H := i_imul (q := 191) H I_X2_next_190 rfl
        replace H := i_aln (q := 192) H I_X2_next_191 rfl rfl
        replace H := i_gfr (q := 195) H I_X2_next_192 G_2_9 cn_X2_next LY_1 rfl rfl
        replace H := i_aln (q := 196) H I_X2_next_195 rfl rfl
        replace H := i_gfi (q := 199) H I_X2_next_196 G_2_25 cn_X2_next LY_1 rfl rfl
        have W := i_ba (q := 200) H I_X2_next_199 LY_2 rfl
        clear H
        obtain ⟨i_199, bi_199, ei_199, H⟩ := W
        replace H := i_iadd (q := 201) H I_X2_next_200 rfl
        replace H := i_bip (x := 48) (q := 203) H I_X2_next_201 (by decide) rfl
        replace H := i_isub (q := 204) H I_X2_next_203 rfl
        replace H := i_pf (q := 207) H I_X2_next_204 G_2_105 cn_X2_next LY_1 rfl rfl
        replace H := i_aln (q := 208) H I_X2_next_207 rfl rfl
        replace H := i_dup (q := 209) H I_X2_next_208 rfl rfl
        replace H := i_gfi (q := 212) H I_X2_next_209 G_2_25 cn_X2_next LY_1 rfl rfl
        replace H := i_icst (x := 1) (q := 213) H I_X2_next_212 (by decide) rfl
        replace H := i_iadd (q := 214) H I_X2_next_213 rfl
        replace H := i_pf (q := 217) H I_X2_next_214 G_2_25 cn_X2_next LY_1 rfl rfl
        replace H := i_goto (q := 157) H I_X2_next_217 (by decide)
        have hi : i_176 = p := (zofn (ei_176.symm.trans hp) (by omega) (by omega))
        subst hi
        have hlt : i_176 < n := by rw [hp, hn] at c_165; exact (zofn_lt (by omega) (by omega)).mp c_165
        have hd : zdg (m 2 i_176) = true := by simpa using c_180
        have hi2 : i_199 = i_176 := (zofn (ei_199.symm.trans hp) (by omega) (by omega))
        subst hi2
        obtain ⟨m1, H1, h1, h2, h3, h4⟩ := ih n (i_199 + 1) s _ d r h' c (by omega) (by simpa [zup] using hn) hn2 (by rw [zup_s]; rw [zup_n (by omega), hp, zofn_1]) (by omega) (by omega) (by simpa [zup] using hs) (fun e => by omega) (fun e => by
          have e2 : i_199 = s + 1 := by omega
          subst e2
          have := hv1 rfl
          simp [zup]
          rw [this]) H
        refine ⟨m1, H1, ?_, ?_, ?_, fun a b hab => ?_⟩
        · rw [h1, tE_yes (f := zdg) (p := i_199) hlt hd]
          rfl
        · intro e
          rw [tE_yes (f := zdg) (p := i_199) hlt hd] at e
          exact h2 e
        · intro e
          rw [tE_yes (f := zdg) (p := i_199) hlt hd] at e
          exact h3 e
        · rw [h4 a b hab, zup_n (fun w => hab ⟨w.1, Or.inl w.2⟩), zup_n (fun w => hab ⟨w.1, Or.inr w.2⟩)]
theorem zofn_sub {i j : Nat} (h : j ≤ i) : Int32.ofNat (i - j) = Int32.ofNat i - Int32.ofNat j := by
  have e : Int32.ofNat i = Int32.ofNat (i - j) + Int32.ofNat j := by rw [← Int32.ofNat_add, Nat.sub_add_cancel h]
  rw [e, Int32.add_sub_cancel]
theorem t_X2_next {d : Nat} {m : zM} {r : Option Value} {h' : zHp} {n p : Nat} (hn : m 1 2 = Int32.ofNat n) (hn2 : n ≤ 160) (hp : m 1 6 = Int32.ofNat p) (hpn : p ≤ n) (H : zE none d zm_X2_next 0 [.ref 1, .null] [] m r h') : ∃ m1, r = none ∧ h' = zhp m1 ∧ m1 1 6 = Int32.ofNat (tN (m 2) n p) ∧ m1 1 7 = tK (m 2) n p ∧ m1 1 8 = Int32.ofNat (tS (m 2) n p) ∧ (tK (m 2) n p = 2 → m1 1 9 = tV (m 2) n p) ∧ zf69 m m1 := by
  obtain ⟨m1, H, f6, ff⟩ := nx_blank _ n p m d r h' rfl hn hn2 hp hpn H
  have f6 : m1 1 6 = Int32.ofNat (tS (m 2) n p) := f6
  have hsn : tS (m 2) n p ≤ n := tE_le hpn
  replace H := i_aln (q := 39) H I_X2_next_38 rfl rfl
  replace H := i_aln (q := 40) H I_X2_next_39 rfl rfl
  replace H := i_gfi (q := 43) H I_X2_next_40 G_2_25 cn_X2_next LY_1 rfl rfl
  replace H := i_pf (q := 46) H I_X2_next_43 G_2_102 cn_X2_next LY_1 rfl rfl
  replace H := i_aln (q := 47) H I_X2_next_46 rfl rfl
  replace H := i_icst (x := 0) (q := 48) H I_X2_next_47 (by decide) rfl
  replace H := i_pf (q := 51) H I_X2_next_48 G_2_105 cn_X2_next LY_1 rfl rfl
  obtain ⟨m2, H, g6, g8, g2, gf⟩ : ∃ m2, zE none d zm_X2_next 51 [.ref 1, .null] [] m2 r h' ∧ m2 1 6 = Int32.ofNat (tS (m 2) n p) ∧ m2 1 8 = Int32.ofNat (tS (m 2) n p) ∧ m2 1 2 = Int32.ofNat n ∧ zf69 m m2 := ⟨_, H, by simpa [zup] using f6, by simpa [zup] using f6, by simp [zup, ff, hn], fun a b hab => by rw [zup_n (by omega), zup_n (by omega), ff a b (by omega)]⟩
  replace H := i_aln (q := 52) H I_X2_next_51 rfl rfl
  replace H := i_gfi (q := 55) H I_X2_next_52 G_2_25 cn_X2_next LY_1 rfl rfl
  replace H := i_aln (q := 56) H I_X2_next_55 rfl rfl
  replace H := i_gfi (q := 59) H I_X2_next_56 G_2_71 cn_X2_next LY_1 rfl rfl
  have W := i_ic_lt (t := 68) (q := 62) H I_X2_next_59 (by decide) rfl
  clear H
  rcases W with ⟨c_59, H⟩ | ⟨c_59, H⟩
  · skip
    replace H := i_aln (q := 69) H I_X2_next_68 rfl rfl
    replace H := i_gfr (q := 72) H I_X2_next_69 G_2_9 cn_X2_next LY_1 rfl rfl
    replace H := i_aln (q := 73) H I_X2_next_72 rfl rfl
    replace H := i_gfi (q := 76) H I_X2_next_73 G_2_25 cn_X2_next LY_1 rfl rfl
    have W := i_ba (q := 77) H I_X2_next_76 LY_2 rfl
    clear H
    obtain ⟨i_76, bi_76, ei_76, H⟩ := W
    replace H := i_isn (q := 78) H I_X2_next_77 rfl rfl
    replace H := i_aln (q := 79) H I_X2_next_78 rfl rfl
    replace H := i_dup (q := 80) H I_X2_next_79 rfl rfl
    replace H := i_gfi (q := 83) H I_X2_next_80 G_2_25 cn_X2_next LY_1 rfl rfl
    replace H := i_icst (x := 1) (q := 84) H I_X2_next_83 (by decide) rfl
    replace H := i_iadd (q := 85) H I_X2_next_84 rfl
    replace H := i_pf (q := 88) H I_X2_next_85 G_2_25 cn_X2_next LY_1 rfl rfl
    have hns : tS (m 2) n p < n := by
      rw [g6, g2] at c_59
      exact (zofn_lt (by omega) (by omega)).mp c_59
    have hi : i_76 = tS (m 2) n p := zofn (ei_76.symm.trans g6) (by omega) (by omega)
    subst hi
    have gt : m2 2 = m 2 := by funext b; exact gf 2 b (by omega)
    rw [gt] at H
    obtain ⟨m3, H, k6, k8, k2, kf⟩ : ∃ m3, zE none d zm_X2_next 88 [.ref 1, .int (m 2 (tS (m 2) n p))] [] m3 r h' ∧ m3 1 6 = Int32.ofNat (tS (m 2) n p + 1) ∧ m3 1 8 = Int32.ofNat (tS (m 2) n p) ∧ m3 1 2 = Int32.ofNat n ∧ zf69 m m3 := ⟨_, H, by rw [zup_s, g6, zofn_1], by simpa [zup] using g8, by simpa [zup] using g2, fun a b hab => by rw [zup_n (by omega), gf a b hab]⟩
    have gt3 : m3 2 = m 2 := by funext b; exact kf 2 b (by omega)
    generalize hS : tS (m 2) n p = s at *
    have hns2 : ¬ n ≤ s := by omega
    replace H := i_iln (q := 89) H I_X2_next_88 rfl rfl
    have W := i_cs1 0 (q := 92) H I_X2_next_89 K_2_121 Zm_38 rfl rfl
    clear H
    obtain ⟨r1, h1, Hc, K1, K2⟩ := W
    obtain ⟨e1, e2⟩ := t_X2_isLetter Hc
    have H := K1 _ _ e1 e2
    clear e1 e2 Hc K1 K2
    have W := i_if_eq (t := 142) (q := 95) H I_X2_next_92 (by decide) rfl
    clear H
    rcases W with ⟨c_92, H⟩ | ⟨c_92, H⟩
    · skip
      replace H := i_iln (q := 143) H I_X2_next_142 rfl rfl
      have W := i_cs1 0 (q := 146) H I_X2_next_143 K_2_124 Zm_39 rfl rfl
      clear H
      obtain ⟨r1, h1, Hc, K1, K2⟩ := W
      obtain ⟨e1, e2⟩ := t_X2_isFigure Hc
      have H := K1 _ _ e1 e2
      clear e1 e2 Hc K1 K2
      have W := i_if_eq (t := 245) (q := 149) H I_X2_next_146 (by decide) rfl
      clear H
      rcases W with ⟨c_146, H⟩ | ⟨c_146, H⟩
      · skip
        replace H := i_aln (q := 246) H I_X2_next_245 rfl rfl
        replace H := i_iln (q := 247) H I_X2_next_246 rfl rfl
        replace H := i_bip (x := 59) (q := 249) H I_X2_next_247 (by decide) rfl
        have W := i_ic_ne (t := 256) (q := 252) H I_X2_next_249 (by decide) rfl
        clear H
        rcases W with ⟨c_249, H⟩ | ⟨c_249, H⟩
        · skip
          replace H := i_icst (x := 4) (q := 257) H I_X2_next_256 (by decide) rfl
          replace H := i_pf (q := 260) H I_X2_next_257 G_2_51 cn_X2_next LY_1 rfl rfl
          obtain ⟨hr, hh⟩ := i_rt H I_X2_next_260
          have hL : zlt (m 2 s) = false := by simpa using c_92
          have hD : zdg (m 2 s) = false := by simpa using c_146
          refine ⟨_, hr, hh, ?_, ?_, ?_, ?_, ?_⟩
          · simp [zup, k6, tN, tNs, hS, hns2, hL, hD]
          · simp only [tK, tKs, hS, if_neg hns2, hL, hD, Bool.false_eq_true, if_false]
            simp [zup, c_249]
          · simp [zup, k8]
          · simp only [tK, tKs, hS, if_neg hns2, hL, hD, Bool.false_eq_true, if_false]
            simp [c_249]
          · intro a b hab
            rw [zup_n (by omega), kf a b hab]
        · skip
          replace H := i_icst (x := 3) (q := 253) H I_X2_next_252 (by decide) rfl
          replace H := i_goto (q := 257) H I_X2_next_253 (by decide)
          replace H := i_pf (q := 260) H I_X2_next_257 G_2_51 cn_X2_next LY_1 rfl rfl
          obtain ⟨hr, hh⟩ := i_rt H I_X2_next_260
          have hL : zlt (m 2 s) = false := by simpa using c_92
          have hD : zdg (m 2 s) = false := by simpa using c_146
          refine ⟨_, hr, hh, ?_, ?_, ?_, ?_, ?_⟩
          · simp [zup, k6, tN, tNs, hS, hns2, hL, hD]
          · simp only [tK, tKs, hS, if_neg hns2, hL, hD, Bool.false_eq_true, if_false]
            simp [zup, c_249]
          · simp [zup, k8]
          · simp only [tK, tKs, hS, if_neg hns2, hL, hD, Bool.false_eq_true, if_false]
            simp [c_249]
          · intro a b hab
            rw [zup_n (by omega), kf a b hab]
      · skip
        replace H := i_aln (q := 150) H I_X2_next_149 rfl rfl
        replace H := i_iln (q := 151) H I_X2_next_150 rfl rfl
        replace H := i_bip (x := 48) (q := 153) H I_X2_next_151 (by decide) rfl
        replace H := i_isub (q := 154) H I_X2_next_153 rfl
        replace H := i_pf (q := 157) H I_X2_next_154 G_2_105 cn_X2_next LY_1 rfl rfl
        have hL : zlt (m 2 s) = false := by simpa using c_92
        have hD : zdg (m 2 s) = true := by simpa using c_146
        obtain ⟨m4, H, l6, lv1, lv2, lf⟩ := nx_dig _ n (s + 1) s _ d r h' _ rfl (by simpa [zup] using k2) hn2 (by simpa [zup] using k6) (by omega) (by omega) (by simpa [zup] using k8) (fun _ => by simp [zup, gt3]) (fun e => by omega) H
        have gt4 : zup m3 1 9 (m 2 s - 48) 2 = m 2 := by funext b; simp [zup, gt3]
        rw [gt4] at l6 lv1 lv2
        have hge : s + 1 ≤ tE zdg (m 2) n (s + 1) := tE_ge
        have hle : tE zdg (m 2) n (s + 1) ≤ n := tE_le (by omega)
        have l8 : m4 1 8 = Int32.ofNat s := by rw [lf 1 8 (by omega)]; simpa [zup] using k8
        have hsub : m4 1 6 - m4 1 8 = Int32.ofNat (tE zdg (m 2) n (s + 1) - s) := by
          rw [l6, l8, ← zofn_sub (by omega)]
        replace H := i_aln (q := 221) H I_X2_next_220 rfl rfl
        replace H := i_aln (q := 222) H I_X2_next_221 rfl rfl
        replace H := i_gfi (q := 225) H I_X2_next_222 G_2_25 cn_X2_next LY_1 rfl rfl
        replace H := i_aln (q := 226) H I_X2_next_225 rfl rfl
        replace H := i_gfi (q := 229) H I_X2_next_226 G_2_102 cn_X2_next LY_1 rfl rfl
        replace H := i_isub (q := 230) H I_X2_next_229 rfl
        replace H := i_icst (x := 2) (q := 231) H I_X2_next_230 (by decide) rfl
        have W := i_ic_le (t := 238) (q := 234) H I_X2_next_231 (by decide) rfl
        clear H
        rcases W with ⟨c_231, H⟩ | ⟨c_231, H⟩
        · skip
          replace H := i_icst (x := 2) (q := 239) H I_X2_next_238 (by decide) rfl
          replace H := i_pf (q := 242) H I_X2_next_239 G_2_51 cn_X2_next LY_1 rfl rfl
          replace H := i_goto (q := 260) H I_X2_next_242 (by decide)
          obtain ⟨hr, hh⟩ := i_rt H I_X2_next_260
          have hq : ¬ 2 < tE zdg (m 2) n (s + 1) - s := by
            rw [hsub] at c_231
            exact fun w => c_231 ((zofn_lt (i := 2) (by decide) (by omega)).mpr w)
          refine ⟨_, hr, hh, ?_, ?_, ?_, ?_, ?_⟩
          · simp [zup, l6, tN, tNs, hS, hns2, hL, hD]
          · simp [zup, tK, tKs, hS, hns2, hL, hD, hq]
          · simp [zup, l8]
          · intro hk
            simp only [tV, tVs, hS, hD, if_true]
            simp [zup]
            split
            · rename_i e
              exact lv1 e
            · rename_i e
              exact lv2 (by omega)
          · intro a b hab
            rw [zup_n (by omega), lf a b (by omega), zup_n (by omega), kf a b hab]
        · skip
          replace H := i_icst (x := 4) (q := 235) H I_X2_next_234 (by decide) rfl
          replace H := i_goto (q := 239) H I_X2_next_235 (by decide)
          replace H := i_pf (q := 242) H I_X2_next_239 G_2_51 cn_X2_next LY_1 rfl rfl
          replace H := i_goto (q := 260) H I_X2_next_242 (by decide)
          obtain ⟨hr, hh⟩ := i_rt H I_X2_next_260
          have hq : 2 < tE zdg (m 2) n (s + 1) - s := by
            rw [hsub] at c_231
            exact (zofn_lt (i := 2) (by decide) (by omega)).mp c_231
          refine ⟨_, hr, hh, ?_, ?_, ?_, ?_, ?_⟩
          · simp [zup, l6, tN, tNs, hS, hns2, hL, hD]
          · simp [zup, tK, tKs, hS, hns2, hL, hD, hq]
          · simp [zup, l8]
          · intro hk
            simp only [tV, tVs, hS, hD, if_true]
            simp [zup]
            split
            · rename_i e
              exact lv1 e
            · rename_i e
              exact absurd hk (by simp [tK, tKs, hS, hns2, hL, hD, hq])
          · intro a b hab
            rw [zup_n (by omega), lf a b (by omega), zup_n (by omega), kf a b hab]
    · skip
      have hL : zlt (m 2 s) = true := by simpa using c_92
      obtain ⟨m4, H, l6, lf⟩ := nx_name _ n (s + 1) m3 d r h' _ rfl k2 hn2 k6 (by omega) H
      rw [gt3] at l6
      replace H := i_aln (q := 135) H I_X2_next_134 rfl rfl
      replace H := i_icst (x := 1) (q := 136) H I_X2_next_135 (by decide) rfl
      replace H := i_pf (q := 139) H I_X2_next_136 G_2_51 cn_X2_next LY_1 rfl rfl
      replace H := i_goto (q := 260) H I_X2_next_139 (by decide)
      obtain ⟨hr, hh⟩ := i_rt H I_X2_next_260
      refine ⟨_, hr, hh, ?_, ?_, ?_, ?_, ?_⟩
      · simp [zup, l6, tN, tNs, hS, hns2, hL]
      · simp [zup, tK, tKs, hS, hns2, hL]
      · simp [zup, lf, k8]
      · simp [tK, tKs, hS, hns2, hL]
      · intro a b hab
        rw [zup_n (by omega), lf a b (by omega), kf a b hab]
  · skip
    replace H := i_aln (q := 63) H I_X2_next_62 rfl rfl
    replace H := i_icst (x := 0) (q := 64) H I_X2_next_63 (by decide) rfl
    replace H := i_pf (q := 67) H I_X2_next_64 G_2_51 cn_X2_next LY_1 rfl rfl
    obtain ⟨hr, hh⟩ := i_rt H I_X2_next_67
    have hns : n ≤ tS (m 2) n p := by
      rw [g6, g2] at c_59
      have := mt (zofn_lt (by omega) (by omega)).mpr c_59
      omega
    refine ⟨_, hr, hh, ?_, ?_, ?_, ?_, ?_⟩
    · simp [zup, g6, tN, tNs, hns]
    · simp [zup, tK, tKs, hns]
    · simp [zup, g8]
    · simp [tK, tKs, hns]
    · intro a b hab
      rw [zup_n (by omega), gf a b hab]
end
section
/-! the reference's tokens -/
theorem It_X8_byteAt : zm_X8_byteAt.2.2.2.2.2 = zt_X8_byteAt := by
  unfold zm_X8_byteAt
  rfl
theorem It_X8_fails : zm_X8_fails.2.2.2.2.2 = zt_X8_fails := by
  unfold zm_X8_fails
  rfl
theorem It_X8_in : zm_X8_in.2.2.2.2.2 = zt_X8_in := by
  unfold zm_X8_in
  rfl
theorem It_X8_step : zm_X8_step.2.2.2.2.2 = zt_X8_step := by
  unfold zm_X8_step
  rfl
theorem I_X8_byteAt_0 : zin zm_X8_byteAt.2.2.2.2.2 0 = some (.iload_n 1, 1) := by rw [It_X8_byteAt]; rfl
theorem I_X8_byteAt_1 : zin zm_X8_byteAt.2.2.2.2.2 1 = some (.aload_n 0, 1) := by rw [It_X8_byteAt]; rfl
theorem I_X8_byteAt_2 : zin zm_X8_byteAt.2.2.2.2.2 2 = some (.getfield 59, 3) := by rw [It_X8_byteAt]; rfl
theorem I_X8_byteAt_5 : zin zm_X8_byteAt.2.2.2.2.2 5 = some (.if_icmp .ge 12, 3) := by rw [It_X8_byteAt]; rfl
theorem I_X8_byteAt_8 : zin zm_X8_byteAt.2.2.2.2.2 8 = some (.aload_n 0, 1) := by rw [It_X8_byteAt]; rfl
theorem I_X8_byteAt_9 : zin zm_X8_byteAt.2.2.2.2.2 9 = some (.getfield 19, 3) := by rw [It_X8_byteAt]; rfl
theorem I_X8_byteAt_12 : zin zm_X8_byteAt.2.2.2.2.2 12 = some (.iload_n 1, 1) := by rw [It_X8_byteAt]; rfl
theorem I_X8_byteAt_13 : zin zm_X8_byteAt.2.2.2.2.2 13 = some (.iaload, 1) := by rw [It_X8_byteAt]; rfl
theorem I_X8_byteAt_14 : zin zm_X8_byteAt.2.2.2.2.2 14 = some (.goto 5, 3) := by rw [It_X8_byteAt]; rfl
theorem I_X8_byteAt_17 : zin zm_X8_byteAt.2.2.2.2.2 17 = some (.bipush (-4), 2) := by rw [It_X8_byteAt]; rfl
theorem I_X8_byteAt_19 : zin zm_X8_byteAt.2.2.2.2.2 19 = some (.ireturn, 1) := by rw [It_X8_byteAt]; rfl
theorem I_X8_fails_0 : zin zm_X8_fails.2.2.2.2.2 0 = some (.aload_n 0, 1) := by rw [It_X8_fails]; rfl
theorem I_X8_fails_1 : zin zm_X8_fails.2.2.2.2.2 1 = some (.getfield 63, 3) := by rw [It_X8_fails]; rfl
theorem I_X8_fails_4 : zin zm_X8_fails.2.2.2.2.2 4 = some (.ifCond .ne 16, 3) := by rw [It_X8_fails]; rfl
theorem I_X8_fails_7 : zin zm_X8_fails.2.2.2.2.2 7 = some (.aload_n 0, 1) := by rw [It_X8_fails]; rfl
theorem I_X8_fails_8 : zin zm_X8_fails.2.2.2.2.2 8 = some (.iload_n 1, 1) := by rw [It_X8_fails]; rfl
theorem I_X8_fails_9 : zin zm_X8_fails.2.2.2.2.2 9 = some (.putfield 63, 3) := by rw [It_X8_fails]; rfl
theorem I_X8_fails_12 : zin zm_X8_fails.2.2.2.2.2 12 = some (.aload_n 0, 1) := by rw [It_X8_fails]; rfl
theorem I_X8_fails_13 : zin zm_X8_fails.2.2.2.2.2 13 = some (.aload_n 0, 1) := by rw [It_X8_fails]; rfl
theorem I_X8_fails_14 : zin zm_X8_fails.2.2.2.2.2 14 = some (.getfield 66, 3) := by rw [It_X8_fails]; rfl
theorem I_X8_fails_17 : zin zm_X8_fails.2.2.2.2.2 17 = some (.putfield 69, 3) := by rw [It_X8_fails]; rfl
theorem I_X8_fails_20 : zin zm_X8_fails.2.2.2.2.2 20 = some (.return_, 1) := by rw [It_X8_fails]; rfl
theorem I_X8_in_0 : zin zm_X8_in.2.2.2.2.2 0 = some (.lload_n 0, 1) := by rw [It_X8_in]; rfl
theorem I_X8_in_1 : zin zm_X8_in.2.2.2.2.2 1 = some (.lload_n 2, 1) := by rw [It_X8_in]; rfl
theorem I_X8_in_2 : zin zm_X8_in.2.2.2.2.2 2 = some (.lcmp, 1) := by rw [It_X8_in]; rfl
theorem I_X8_in_3 : zin zm_X8_in.2.2.2.2.2 3 = some (.ifCond .lt 14, 3) := by rw [It_X8_in]; rfl
theorem I_X8_in_6 : zin zm_X8_in.2.2.2.2.2 6 = some (.lload_n 0, 1) := by rw [It_X8_in]; rfl
theorem I_X8_in_7 : zin zm_X8_in.2.2.2.2.2 7 = some (.lload 4, 2) := by rw [It_X8_in]; rfl
theorem I_X8_in_9 : zin zm_X8_in.2.2.2.2.2 9 = some (.lcmp, 1) := by rw [It_X8_in]; rfl
theorem I_X8_in_10 : zin zm_X8_in.2.2.2.2.2 10 = some (.ifCond .gt 7, 3) := by rw [It_X8_in]; rfl
theorem I_X8_in_13 : zin zm_X8_in.2.2.2.2.2 13 = some (.iconst 1, 1) := by rw [It_X8_in]; rfl
theorem I_X8_in_14 : zin zm_X8_in.2.2.2.2.2 14 = some (.goto 4, 3) := by rw [It_X8_in]; rfl
theorem I_X8_in_17 : zin zm_X8_in.2.2.2.2.2 17 = some (.iconst 0, 1) := by rw [It_X8_in]; rfl
theorem I_X8_in_18 : zin zm_X8_in.2.2.2.2.2 18 = some (.ireturn, 1) := by rw [It_X8_in]; rfl
theorem I_X8_step_0 : zin zm_X8_step.2.2.2.2.2 0 = some (.aload_n 0, 1) := by rw [It_X8_step]; rfl
theorem I_X8_step_1 : zin zm_X8_step.2.2.2.2.2 1 = some (.getfield 63, 3) := by rw [It_X8_step]; rfl
theorem I_X8_step_4 : zin zm_X8_step.2.2.2.2.2 4 = some (.ifCond .le 4, 3) := by rw [It_X8_step]; rfl
theorem I_X8_step_7 : zin zm_X8_step.2.2.2.2.2 7 = some (.return_, 1) := by rw [It_X8_step]; rfl
theorem I_X8_step_8 : zin zm_X8_step.2.2.2.2.2 8 = some (.aload_n 0, 1) := by rw [It_X8_step]; rfl
theorem I_X8_step_9 : zin zm_X8_step.2.2.2.2.2 9 = some (.aload_n 0, 1) := by rw [It_X8_step]; rfl
theorem I_X8_step_10 : zin zm_X8_step.2.2.2.2.2 10 = some (.getfield 75, 3) := by rw [It_X8_step]; rfl
theorem I_X8_step_13 : zin zm_X8_step.2.2.2.2.2 13 = some (.invokevirtual 78, 3) := by rw [It_X8_step]; rfl
theorem I_X8_step_16 : zin zm_X8_step.2.2.2.2.2 16 = some (.bipush 32, 2) := by rw [It_X8_step]; rfl
theorem I_X8_step_18 : zin zm_X8_step.2.2.2.2.2 18 = some (.if_icmp .ne 16, 3) := by rw [It_X8_step]; rfl
theorem I_X8_step_21 : zin zm_X8_step.2.2.2.2.2 21 = some (.aload_n 0, 1) := by rw [It_X8_step]; rfl
theorem I_X8_step_22 : zin zm_X8_step.2.2.2.2.2 22 = some (.dup, 1) := by rw [It_X8_step]; rfl
theorem I_X8_step_23 : zin zm_X8_step.2.2.2.2.2 23 = some (.getfield 75, 3) := by rw [It_X8_step]; rfl
theorem I_X8_step_26 : zin zm_X8_step.2.2.2.2.2 26 = some (.iconst 1, 1) := by rw [It_X8_step]; rfl
theorem I_X8_step_27 : zin zm_X8_step.2.2.2.2.2 27 = some (.iadd, 1) := by rw [It_X8_step]; rfl
theorem I_X8_step_28 : zin zm_X8_step.2.2.2.2.2 28 = some (.putfield 75, 3) := by rw [It_X8_step]; rfl
theorem I_X8_step_31 : zin zm_X8_step.2.2.2.2.2 31 = some (.goto (-23), 3) := by rw [It_X8_step]; rfl
theorem I_X8_step_34 : zin zm_X8_step.2.2.2.2.2 34 = some (.aload_n 0, 1) := by rw [It_X8_step]; rfl
theorem I_X8_step_35 : zin zm_X8_step.2.2.2.2.2 35 = some (.aload_n 0, 1) := by rw [It_X8_step]; rfl
theorem I_X8_step_36 : zin zm_X8_step.2.2.2.2.2 36 = some (.getfield 75, 3) := by rw [It_X8_step]; rfl
theorem I_X8_step_39 : zin zm_X8_step.2.2.2.2.2 39 = some (.putfield 66, 3) := by rw [It_X8_step]; rfl
theorem I_X8_step_42 : zin zm_X8_step.2.2.2.2.2 42 = some (.aload_n 0, 1) := by rw [It_X8_step]; rfl
theorem I_X8_step_43 : zin zm_X8_step.2.2.2.2.2 43 = some (.aload_n 0, 1) := by rw [It_X8_step]; rfl
theorem I_X8_step_44 : zin zm_X8_step.2.2.2.2.2 44 = some (.getfield 75, 3) := by rw [It_X8_step]; rfl
theorem I_X8_step_47 : zin zm_X8_step.2.2.2.2.2 47 = some (.invokevirtual 78, 3) := by rw [It_X8_step]; rfl
theorem I_X8_step_50 : zin zm_X8_step.2.2.2.2.2 50 = some (.istore_n 1, 1) := by rw [It_X8_step]; rfl
theorem I_X8_step_51 : zin zm_X8_step.2.2.2.2.2 51 = some (.aload_n 0, 1) := by rw [It_X8_step]; rfl
theorem I_X8_step_52 : zin zm_X8_step.2.2.2.2.2 52 = some (.iconst 0, 1) := by rw [It_X8_step]; rfl
theorem I_X8_step_53 : zin zm_X8_step.2.2.2.2.2 53 = some (.putfield 82, 3) := by rw [It_X8_step]; rfl
theorem I_X8_step_56 : zin zm_X8_step.2.2.2.2.2 56 = some (.iload_n 1, 1) := by rw [It_X8_step]; rfl
theorem I_X8_step_57 : zin zm_X8_step.2.2.2.2.2 57 = some (.bipush (-4), 2) := by rw [It_X8_step]; rfl
theorem I_X8_step_59 : zin zm_X8_step.2.2.2.2.2 59 = some (.if_icmp .ne 11, 3) := by rw [It_X8_step]; rfl
theorem I_X8_step_62 : zin zm_X8_step.2.2.2.2.2 62 = some (.aload_n 0, 1) := by rw [It_X8_step]; rfl
theorem I_X8_step_63 : zin zm_X8_step.2.2.2.2.2 63 = some (.iconst 0, 1) := by rw [It_X8_step]; rfl
theorem I_X8_step_64 : zin zm_X8_step.2.2.2.2.2 64 = some (.putfield 72, 3) := by rw [It_X8_step]; rfl
theorem I_X8_step_67 : zin zm_X8_step.2.2.2.2.2 67 = some (.goto 202, 3) := by rw [It_X8_step]; rfl
theorem I_X8_step_70 : zin zm_X8_step.2.2.2.2.2 70 = some (.iload_n 1, 1) := by rw [It_X8_step]; rfl
theorem I_X8_step_71 : zin zm_X8_step.2.2.2.2.2 71 = some (.i2l, 1) := by rw [It_X8_step]; rfl
theorem I_X8_step_72 : zin zm_X8_step.2.2.2.2.2 72 = some (.ldc2_w 85, 3) := by rw [It_X8_step]; rfl
theorem I_X8_step_75 : zin zm_X8_step.2.2.2.2.2 75 = some (.ldc2_w 87, 3) := by rw [It_X8_step]; rfl
theorem I_X8_step_78 : zin zm_X8_step.2.2.2.2.2 78 = some (.invokestatic 55, 3) := by rw [It_X8_step]; rfl
theorem I_X8_step_81 : zin zm_X8_step.2.2.2.2.2 81 = some (.ifCond .eq 45, 3) := by rw [It_X8_step]; rfl
theorem I_X8_step_84 : zin zm_X8_step.2.2.2.2.2 84 = some (.aload_n 0, 1) := by rw [It_X8_step]; rfl
theorem I_X8_step_85 : zin zm_X8_step.2.2.2.2.2 85 = some (.aload_n 0, 1) := by rw [It_X8_step]; rfl
theorem I_X8_step_86 : zin zm_X8_step.2.2.2.2.2 86 = some (.getfield 75, 3) := by rw [It_X8_step]; rfl
theorem I_X8_step_89 : zin zm_X8_step.2.2.2.2.2 89 = some (.invokevirtual 78, 3) := by rw [It_X8_step]; rfl
theorem I_X8_step_92 : zin zm_X8_step.2.2.2.2.2 92 = some (.i2l, 1) := by rw [It_X8_step]; rfl
theorem I_X8_step_93 : zin zm_X8_step.2.2.2.2.2 93 = some (.ldc2_w 85, 3) := by rw [It_X8_step]; rfl
theorem I_X8_step_96 : zin zm_X8_step.2.2.2.2.2 96 = some (.ldc2_w 87, 3) := by rw [It_X8_step]; rfl
theorem I_X8_step_99 : zin zm_X8_step.2.2.2.2.2 99 = some (.invokestatic 55, 3) := by rw [It_X8_step]; rfl
theorem I_X8_step_102 : zin zm_X8_step.2.2.2.2.2 102 = some (.ifCond .eq 16, 3) := by rw [It_X8_step]; rfl
theorem I_X8_step_105 : zin zm_X8_step.2.2.2.2.2 105 = some (.aload_n 0, 1) := by rw [It_X8_step]; rfl
theorem I_X8_step_106 : zin zm_X8_step.2.2.2.2.2 106 = some (.dup, 1) := by rw [It_X8_step]; rfl
theorem I_X8_step_107 : zin zm_X8_step.2.2.2.2.2 107 = some (.getfield 75, 3) := by rw [It_X8_step]; rfl
theorem I_X8_step_110 : zin zm_X8_step.2.2.2.2.2 110 = some (.iconst 1, 1) := by rw [It_X8_step]; rfl
theorem I_X8_step_111 : zin zm_X8_step.2.2.2.2.2 111 = some (.iadd, 1) := by rw [It_X8_step]; rfl
theorem I_X8_step_112 : zin zm_X8_step.2.2.2.2.2 112 = some (.putfield 75, 3) := by rw [It_X8_step]; rfl
theorem I_X8_step_115 : zin zm_X8_step.2.2.2.2.2 115 = some (.goto (-31), 3) := by rw [It_X8_step]; rfl
theorem I_X8_step_118 : zin zm_X8_step.2.2.2.2.2 118 = some (.aload_n 0, 1) := by rw [It_X8_step]; rfl
theorem I_X8_step_119 : zin zm_X8_step.2.2.2.2.2 119 = some (.iconst 1, 1) := by rw [It_X8_step]; rfl
theorem I_X8_step_120 : zin zm_X8_step.2.2.2.2.2 120 = some (.putfield 72, 3) := by rw [It_X8_step]; rfl
theorem I_X8_step_123 : zin zm_X8_step.2.2.2.2.2 123 = some (.goto 146, 3) := by rw [It_X8_step]; rfl
theorem I_X8_step_126 : zin zm_X8_step.2.2.2.2.2 126 = some (.iload_n 1, 1) := by rw [It_X8_step]; rfl
theorem I_X8_step_127 : zin zm_X8_step.2.2.2.2.2 127 = some (.i2l, 1) := by rw [It_X8_step]; rfl
theorem I_X8_step_128 : zin zm_X8_step.2.2.2.2.2 128 = some (.ldc2_w 89, 3) := by rw [It_X8_step]; rfl
theorem I_X8_step_131 : zin zm_X8_step.2.2.2.2.2 131 = some (.ldc2_w 91, 3) := by rw [It_X8_step]; rfl
theorem I_X8_step_134 : zin zm_X8_step.2.2.2.2.2 134 = some (.invokestatic 55, 3) := by rw [It_X8_step]; rfl
theorem I_X8_step_137 : zin zm_X8_step.2.2.2.2.2 137 = some (.ifCond .eq 106, 3) := by rw [It_X8_step]; rfl
theorem I_X8_step_140 : zin zm_X8_step.2.2.2.2.2 140 = some (.aload_n 0, 1) := by rw [It_X8_step]; rfl
theorem I_X8_step_141 : zin zm_X8_step.2.2.2.2.2 141 = some (.aload_n 0, 1) := by rw [It_X8_step]; rfl
theorem I_X8_step_142 : zin zm_X8_step.2.2.2.2.2 142 = some (.getfield 75, 3) := by rw [It_X8_step]; rfl
theorem I_X8_step_145 : zin zm_X8_step.2.2.2.2.2 145 = some (.invokevirtual 78, 3) := by rw [It_X8_step]; rfl
theorem I_X8_step_148 : zin zm_X8_step.2.2.2.2.2 148 = some (.i2l, 1) := by rw [It_X8_step]; rfl
theorem I_X8_step_149 : zin zm_X8_step.2.2.2.2.2 149 = some (.ldc2_w 89, 3) := by rw [It_X8_step]; rfl
theorem I_X8_step_152 : zin zm_X8_step.2.2.2.2.2 152 = some (.ldc2_w 91, 3) := by rw [It_X8_step]; rfl
theorem I_X8_step_155 : zin zm_X8_step.2.2.2.2.2 155 = some (.invokestatic 55, 3) := by rw [It_X8_step]; rfl
theorem I_X8_step_158 : zin zm_X8_step.2.2.2.2.2 158 = some (.ifCond .eq 59, 3) := by rw [It_X8_step]; rfl
theorem I_X8_step_161 : zin zm_X8_step.2.2.2.2.2 161 = some (.aload_n 0, 1) := by rw [It_X8_step]; rfl
theorem I_X8_step_162 : zin zm_X8_step.2.2.2.2.2 162 = some (.aload_n 0, 1) := by rw [It_X8_step]; rfl
theorem I_X8_step_163 : zin zm_X8_step.2.2.2.2.2 163 = some (.getfield 75, 3) := by rw [It_X8_step]; rfl
theorem I_X8_step_166 : zin zm_X8_step.2.2.2.2.2 166 = some (.aload_n 0, 1) := by rw [It_X8_step]; rfl
theorem I_X8_step_167 : zin zm_X8_step.2.2.2.2.2 167 = some (.getfield 66, 3) := by rw [It_X8_step]; rfl
theorem I_X8_step_170 : zin zm_X8_step.2.2.2.2.2 170 = some (.isub, 1) := by rw [It_X8_step]; rfl
theorem I_X8_step_171 : zin zm_X8_step.2.2.2.2.2 171 = some (.iconst 2, 1) := by rw [It_X8_step]; rfl
theorem I_X8_step_172 : zin zm_X8_step.2.2.2.2.2 172 = some (.if_icmp .ge 25, 3) := by rw [It_X8_step]; rfl
theorem I_X8_step_175 : zin zm_X8_step.2.2.2.2.2 175 = some (.bipush 10, 2) := by rw [It_X8_step]; rfl
theorem I_X8_step_177 : zin zm_X8_step.2.2.2.2.2 177 = some (.aload_n 0, 1) := by rw [It_X8_step]; rfl
theorem I_X8_step_178 : zin zm_X8_step.2.2.2.2.2 178 = some (.getfield 82, 3) := by rw [It_X8_step]; rfl
theorem I_X8_step_181 : zin zm_X8_step.2.2.2.2.2 181 = some (.imul, 1) := by rw [It_X8_step]; rfl
theorem I_X8_step_182 : zin zm_X8_step.2.2.2.2.2 182 = some (.aload_n 0, 1) := by rw [It_X8_step]; rfl
theorem I_X8_step_183 : zin zm_X8_step.2.2.2.2.2 183 = some (.aload_n 0, 1) := by rw [It_X8_step]; rfl
theorem I_X8_step_184 : zin zm_X8_step.2.2.2.2.2 184 = some (.getfield 75, 3) := by rw [It_X8_step]; rfl
theorem I_X8_step_187 : zin zm_X8_step.2.2.2.2.2 187 = some (.invokevirtual 78, 3) := by rw [It_X8_step]; rfl
theorem I_X8_step_190 : zin zm_X8_step.2.2.2.2.2 190 = some (.iadd, 1) := by rw [It_X8_step]; rfl
theorem I_X8_step_191 : zin zm_X8_step.2.2.2.2.2 191 = some (.bipush 48, 2) := by rw [It_X8_step]; rfl
theorem I_X8_step_193 : zin zm_X8_step.2.2.2.2.2 193 = some (.isub, 1) := by rw [It_X8_step]; rfl
theorem I_X8_step_194 : zin zm_X8_step.2.2.2.2.2 194 = some (.goto 7, 3) := by rw [It_X8_step]; rfl
theorem I_X8_step_197 : zin zm_X8_step.2.2.2.2.2 197 = some (.aload_n 0, 1) := by rw [It_X8_step]; rfl
theorem I_X8_step_198 : zin zm_X8_step.2.2.2.2.2 198 = some (.getfield 82, 3) := by rw [It_X8_step]; rfl
theorem I_X8_step_201 : zin zm_X8_step.2.2.2.2.2 201 = some (.putfield 82, 3) := by rw [It_X8_step]; rfl
theorem I_X8_step_204 : zin zm_X8_step.2.2.2.2.2 204 = some (.aload_n 0, 1) := by rw [It_X8_step]; rfl
theorem I_X8_step_205 : zin zm_X8_step.2.2.2.2.2 205 = some (.dup, 1) := by rw [It_X8_step]; rfl
theorem I_X8_step_206 : zin zm_X8_step.2.2.2.2.2 206 = some (.getfield 75, 3) := by rw [It_X8_step]; rfl
theorem I_X8_step_209 : zin zm_X8_step.2.2.2.2.2 209 = some (.iconst 1, 1) := by rw [It_X8_step]; rfl
theorem I_X8_step_210 : zin zm_X8_step.2.2.2.2.2 210 = some (.iadd, 1) := by rw [It_X8_step]; rfl
theorem I_X8_step_211 : zin zm_X8_step.2.2.2.2.2 211 = some (.putfield 75, 3) := by rw [It_X8_step]; rfl
theorem I_X8_step_214 : zin zm_X8_step.2.2.2.2.2 214 = some (.goto (-74), 3) := by rw [It_X8_step]; rfl
theorem I_X8_step_217 : zin zm_X8_step.2.2.2.2.2 217 = some (.aload_n 0, 1) := by rw [It_X8_step]; rfl
theorem I_X8_step_218 : zin zm_X8_step.2.2.2.2.2 218 = some (.iconst 2, 1) := by rw [It_X8_step]; rfl
theorem I_X8_step_219 : zin zm_X8_step.2.2.2.2.2 219 = some (.putfield 72, 3) := by rw [It_X8_step]; rfl
theorem I_X8_step_222 : zin zm_X8_step.2.2.2.2.2 222 = some (.aload_n 0, 1) := by rw [It_X8_step]; rfl
theorem I_X8_step_223 : zin zm_X8_step.2.2.2.2.2 223 = some (.getfield 75, 3) := by rw [It_X8_step]; rfl
theorem I_X8_step_226 : zin zm_X8_step.2.2.2.2.2 226 = some (.aload_n 0, 1) := by rw [It_X8_step]; rfl
theorem I_X8_step_227 : zin zm_X8_step.2.2.2.2.2 227 = some (.getfield 66, 3) := by rw [It_X8_step]; rfl
theorem I_X8_step_230 : zin zm_X8_step.2.2.2.2.2 230 = some (.isub, 1) := by rw [It_X8_step]; rfl
theorem I_X8_step_231 : zin zm_X8_step.2.2.2.2.2 231 = some (.iconst 2, 1) := by rw [It_X8_step]; rfl
theorem I_X8_step_232 : zin zm_X8_step.2.2.2.2.2 232 = some (.if_icmp .le 37, 3) := by rw [It_X8_step]; rfl
theorem I_X8_step_235 : zin zm_X8_step.2.2.2.2.2 235 = some (.aload_n 0, 1) := by rw [It_X8_step]; rfl
theorem I_X8_step_236 : zin zm_X8_step.2.2.2.2.2 236 = some (.iconst 1, 1) := by rw [It_X8_step]; rfl
theorem I_X8_step_237 : zin zm_X8_step.2.2.2.2.2 237 = some (.invokevirtual 93, 3) := by rw [It_X8_step]; rfl
theorem I_X8_step_240 : zin zm_X8_step.2.2.2.2.2 240 = some (.goto 29, 3) := by rw [It_X8_step]; rfl
theorem I_X8_step_243 : zin zm_X8_step.2.2.2.2.2 243 = some (.aload_n 0, 1) := by rw [It_X8_step]; rfl
theorem I_X8_step_244 : zin zm_X8_step.2.2.2.2.2 244 = some (.iconst 3, 1) := by rw [It_X8_step]; rfl
theorem I_X8_step_245 : zin zm_X8_step.2.2.2.2.2 245 = some (.putfield 72, 3) := by rw [It_X8_step]; rfl
theorem I_X8_step_248 : zin zm_X8_step.2.2.2.2.2 248 = some (.aload_n 0, 1) := by rw [It_X8_step]; rfl
theorem I_X8_step_249 : zin zm_X8_step.2.2.2.2.2 249 = some (.dup, 1) := by rw [It_X8_step]; rfl
theorem I_X8_step_250 : zin zm_X8_step.2.2.2.2.2 250 = some (.getfield 75, 3) := by rw [It_X8_step]; rfl
theorem I_X8_step_253 : zin zm_X8_step.2.2.2.2.2 253 = some (.iconst 1, 1) := by rw [It_X8_step]; rfl
theorem I_X8_step_254 : zin zm_X8_step.2.2.2.2.2 254 = some (.iadd, 1) := by rw [It_X8_step]; rfl
theorem I_X8_step_255 : zin zm_X8_step.2.2.2.2.2 255 = some (.putfield 75, 3) := by rw [It_X8_step]; rfl
theorem I_X8_step_258 : zin zm_X8_step.2.2.2.2.2 258 = some (.iload_n 1, 1) := by rw [It_X8_step]; rfl
theorem I_X8_step_259 : zin zm_X8_step.2.2.2.2.2 259 = some (.bipush 59, 2) := by rw [It_X8_step]; rfl
theorem I_X8_step_261 : zin zm_X8_step.2.2.2.2.2 261 = some (.if_icmp .eq 8, 3) := by rw [It_X8_step]; rfl
theorem I_X8_step_264 : zin zm_X8_step.2.2.2.2.2 264 = some (.aload_n 0, 1) := by rw [It_X8_step]; rfl
theorem I_X8_step_265 : zin zm_X8_step.2.2.2.2.2 265 = some (.iconst 1, 1) := by rw [It_X8_step]; rfl
theorem I_X8_step_266 : zin zm_X8_step.2.2.2.2.2 266 = some (.invokevirtual 93, 3) := by rw [It_X8_step]; rfl
theorem I_X8_step_269 : zin zm_X8_step.2.2.2.2.2 269 = some (.return_, 1) := by rw [It_X8_step]; rfl
theorem G_8_19 : zlk zfls 8 19 = some (8, 7, 848) := rfl
theorem G_8_59 : zlk zfls 8 59 = some (8, 8, 849) := rfl
theorem G_8_63 : zlk zfls 8 63 = some (8, 10, 851) := rfl
theorem G_8_66 : zlk zfls 8 66 = some (8, 13, 854) := rfl
theorem G_8_69 : zlk zfls 8 69 = some (8, 11, 852) := rfl
theorem G_8_72 : zlk zfls 8 72 = some (8, 14, 855) := rfl
theorem G_8_75 : zlk zfls 8 75 = some (8, 12, 853) := rfl
theorem G_8_82 : zlk zfls 8 82 = some (8, 15, 856) := rfl
theorem K_8_55 : zlk zmls 8 55 = some (1, 114, 3, 940) := rfl
theorem K_8_78 : zlk zmls 8 78 = some (0, 117, 1, 955) := rfl
theorem K_8_93 : zlk zmls 8 93 = some (0, 118, 1, 963) := rfl
theorem Zm_114 : zms[114]? = some zm_X8_in := rfl
theorem Zm_117 : zms[117]? = some zm_X8_byteAt := rfl
theorem Zm_118 : zms[118]? = some zm_X8_fails := rfl
theorem LY_71 : zLY[71]? = some (Sum.inr 8, [some (.ref 72), some (.ref 73), none, some (.ref 74), none, none, none, some (.ref 75), none, none, none, none, none, none, none, none, some (.ref 76), some (.ref 77), none, none, none, some (.ref 78), some (.ref 79), none, some (.ref 80), some (.ref 81), some (.ref 82), some (.ref 83), some (.ref 84), some (.ref 85), none]) := rfl
theorem LY_75 : zLY[75]? = some (Sum.inl 0, List.replicate 160 none) := rfl
theorem J_8_85 : zlk zcJs 8 85 = some (97, 959) := rfl
theorem J_8_87 : zlk zcJs 8 87 = some (122, 960) := rfl
theorem J_8_89 : zlk zcJs 8 89 = some (48, 961) := rfl
theorem J_8_91 : zlk zcJs 8 91 = some (57, 962) := rfl
theorem cl_X8_byteAt : zm_X8_byteAt.2.2.2.2.1 = 8 := by
  unfold zm_X8_byteAt
  rfl
theorem cn_X8_byteAt : zm_X8_byteAt.2.2.2.2.1 ≠ 12 := by
  rw [cl_X8_byteAt]
  decide
theorem cn2_X8_byteAt : zm_X8_byteAt.2.2.2.2.1 ≠ 2 := by
  rw [cl_X8_byteAt]
  decide
theorem cl_X8_fails : zm_X8_fails.2.2.2.2.1 = 8 := by
  unfold zm_X8_fails
  rfl
theorem cn_X8_fails : zm_X8_fails.2.2.2.2.1 ≠ 12 := by
  rw [cl_X8_fails]
  decide
theorem cn2_X8_fails : zm_X8_fails.2.2.2.2.1 ≠ 2 := by
  rw [cl_X8_fails]
  decide
theorem cl_X8_step : zm_X8_step.2.2.2.2.1 = 8 := by
  unfold zm_X8_step
  rfl
theorem cn_X8_step : zm_X8_step.2.2.2.2.1 ≠ 12 := by
  rw [cl_X8_step]
  decide
theorem cn2_X8_step : zm_X8_step.2.2.2.2.1 ≠ 2 := by
  rw [cl_X8_step]
  decide
def zin64 (a b c : Int64) : Int32 := if a < b then 0 else if c < a then 0 else 1
theorem lgc_lt {x y : Int64} : lg_cmp x y < 0 ↔ x < y := by
  unfold lg_cmp
  by_cases h1 : x > y
  · rw [if_pos h1]
    have := Int64.lt_iff_toInt_lt.mp h1
    exact ⟨fun w => absurd w (by decide), fun w => by have := Int64.lt_iff_toInt_lt.mp w; omega⟩
  · rw [if_neg h1]
    by_cases h2 : x = y
    · rw [if_pos h2]
      subst h2
      exact ⟨fun w => absurd w (by decide), fun w => by have := Int64.lt_iff_toInt_lt.mp w; omega⟩
    · rw [if_neg h2]
      refine ⟨fun _ => ?_, fun _ => by decide⟩
      rw [Int64.lt_iff_toInt_lt]
      have h3 : ¬ y.toInt < x.toInt := fun w => h1 (Int64.lt_iff_toInt_lt.mpr w)
      have h4 : ¬ x.toInt = y.toInt := fun w => h2 (Int64.toInt_inj.mp w)
      omega
theorem lgc_gt {x y : Int64} : 0 < lg_cmp x y ↔ y < x := by
  unfold lg_cmp
  by_cases h1 : x > y
  · rw [if_pos h1]
    exact ⟨fun _ => h1, fun _ => by decide⟩
  · rw [if_neg h1]
    by_cases h2 : x = y
    · rw [if_pos h2]
      exact ⟨fun w => absurd w (by decide), fun w => absurd w h1⟩
    · rw [if_neg h2]
      exact ⟨fun w => absurd w (by decide), fun w => absurd w h1⟩
theorem t_X8_in {d : Nat} {m : zM} {r : Option Value} {h' : zHp} {a b c : Int64} (H : zE none d zm_X8_in 0 [.long a, .null, .long b, .null, .long c, .null] [] m r h') : r = some (.int (zin64 a b c)) ∧ h' = zhp m := by
  replace H := i_lln (q := 1) H I_X8_in_0 rfl rfl
  replace H := i_lln (q := 2) H I_X8_in_1 rfl rfl
  replace H := i_lcmp (q := 3) H I_X8_in_2 rfl
  have W := i_if_lt (t := 17) (q := 6) H I_X8_in_3 (by decide) rfl
  clear H
  rcases W with ⟨c_3, H⟩ | ⟨c_3, H⟩
  · skip
    replace H := i_icst (x := 0) (q := 18) H I_X8_in_17 (by decide) rfl
    obtain ⟨hr, hh⟩ := i_ir H I_X8_in_18
    refine ⟨hr.trans ?_, hh⟩
    simp only [lgc_lt, lgc_gt] at *
    simp [zin64, *]
  · skip
    replace H := i_lln (q := 7) H I_X8_in_6 rfl rfl
    replace H := i_ll (q := 9) H I_X8_in_7 rfl rfl
    replace H := i_lcmp (q := 10) H I_X8_in_9 rfl
    have W := i_if_gt (t := 17) (q := 13) H I_X8_in_10 (by decide) rfl
    clear H
    rcases W with ⟨c_10, H⟩ | ⟨c_10, H⟩
    · skip
      replace H := i_icst (x := 0) (q := 18) H I_X8_in_17 (by decide) rfl
      obtain ⟨hr, hh⟩ := i_ir H I_X8_in_18
      refine ⟨hr.trans ?_, hh⟩
      simp only [lgc_lt, lgc_gt] at *
      simp [zin64, *]
    · skip
      replace H := i_icst (x := 1) (q := 14) H I_X8_in_13 (by decide) rfl
      replace H := i_goto (q := 18) H I_X8_in_14 (by decide)
      obtain ⟨hr, hh⟩ := i_ir H I_X8_in_18
      refine ⟨hr.trans ?_, hh⟩
      simp only [lgc_lt, lgc_gt] at *
      simp [zin64, *]
theorem i_in {sc : Option (List Int32)} {d : Nat} {mi : zMi} {pc q : Nat} {L sk : List Value} {m : zM} {r : Option Value} {h' : zHp} {i e : Nat} {a b c : Int64} (H : zE sc d mi pc L (.long c :: .long b :: .long a :: sk) m r h') (hi : zin mi.2.2.2.2.2 pc = some (.invokestatic i, 3)) (hf : zlk zmls mi.2.2.2.2.1 i = some (1, 114, 3, e)) (hq : pc + 3 = q) : zE sc d mi q L (.int (zin64 a b c) :: sk) m r h' := by
  obtain ⟨lo, h1, h2⟩ := H
  obtain ⟨y, hy⟩ := zEv_is h2
  have hy0 := hy
  rw [zstep_of hi] at hy
  simp [zst, zg, hf, Option.bind_eq_some_iff] at hy
  obtain ⟨_, hy⟩ := hy
  subst hq
  rw [← hy] at hy0
  obtain ⟨r1, g1, x1, x2⟩ := zEv_ic h2 hy0 Zm_114
  have H1 : zE none (d - 1) zm_X8_in 0 [.long a, .null, .long b, .null, .long c, .null] [] m r1 g1 := ⟨_, fun k v hk hn => by
    match k, hk with
    | 0, hk => cases hk; rfl
    | 1, hk => cases hk; exact absurd rfl hn
    | 2, hk => cases hk; rfl
    | 3, hk => cases hk; exact absurd rfl hn
    | 4, hk => cases hk; rfl
    | 5, hk => cases hk; exact absurd rfl hn
    | k + 6, hk => simp at hk, x1⟩
  obtain ⟨rfl, rfl⟩ := t_X8_in H1
  exact ⟨lo, h1, x2⟩
theorem zin_32 {x : Int32} {a b : Int64} : zin64 x.toInt64 a b = if a.toInt ≤ x.toInt ∧ x.toInt ≤ b.toInt then 1 else 0 := by
  simp only [zin64, Int64.lt_iff_toInt_lt, Int32.toInt_toInt64]
  by_cases h1 : x.toInt < a.toInt
  · rw [if_pos h1, if_neg (by omega)]
  · rw [if_neg h1]
    by_cases h2 : b.toInt < x.toInt
    · rw [if_pos h2, if_neg (by omega)]
    · rw [if_neg h2, if_pos (by omega)]
theorem zin_lt {x : Int32} : zin64 x.toInt64 97 122 = if zlt x = true then 1 else 0 := by
  rw [zin_32]
  simp only [zlt, Bool.and_eq_true, decide_eq_true_eq, Int32.lt_iff_toInt_lt, Int.not_lt]
  rfl
theorem zin_dg {x : Int32} : zin64 x.toInt64 48 57 = if zdg x = true then 1 else 0 := by
  rw [zin_32]
  simp only [zdg, Bool.and_eq_true, decide_eq_true_eq, Int32.lt_iff_toInt_lt, Int.not_lt]
  rfl
theorem t_X8_fails {d : Nat} {m : zM} {r : Option Value} {h' : zHp} {c : Int32}  (H : zE none d zm_X8_fails 0 [.ref 71, .int c] [] m r h') : r = none ∧ h' = zhp (if m 71 10 = 0 then zup (zup m 71 10 c) 71 11 (m 71 13) else m) := by
  replace H := i_aln (q := 1) H I_X8_fails_0 rfl rfl
  replace H := i_gfi (q := 4) H I_X8_fails_1 G_8_63 cn_X8_fails LY_71 rfl rfl
  have W := i_if_ne (t := 20) (q := 7) H I_X8_fails_4 (by decide) rfl
  clear H
  rcases W with ⟨c_4, H⟩ | ⟨c_4, H⟩
  · skip
    obtain ⟨hr, hh⟩ := i_rt H I_X8_fails_20
    refine ⟨hr, hh.trans ?_⟩
    simp [*, zup_n]
  · skip
    replace H := i_aln (q := 8) H I_X8_fails_7 rfl rfl
    replace H := i_iln (q := 9) H I_X8_fails_8 rfl rfl
    replace H := i_pf (q := 12) H I_X8_fails_9 G_8_63 cn_X8_fails LY_71 rfl rfl
    replace H := i_aln (q := 13) H I_X8_fails_12 rfl rfl
    replace H := i_aln (q := 14) H I_X8_fails_13 rfl rfl
    replace H := i_gfi (q := 17) H I_X8_fails_14 G_8_66 cn_X8_fails LY_71 rfl rfl
    replace H := i_pf (q := 20) H I_X8_fails_17 G_8_69 cn_X8_fails LY_71 rfl rfl
    obtain ⟨hr, hh⟩ := i_rt H I_X8_fails_20
    refine ⟨hr, hh.trans ?_⟩
    simp [*, zup_n]
theorem t_X8_byteAt {d : Nat} {m : zM} {r : Option Value} {h' : zHp} {x : Int32} {n p : Nat} (hx : x = Int32.ofNat p) (hp : p ≤ 1000) (hn : m 71 8 = Int32.ofNat n) (hn2 : n ≤ 160) (H : zE none d zm_X8_byteAt 0 [.ref 71, .int x] [] m r h') : r = some (.int (if p < n then m 75 p else -4)) ∧ h' = zhp m := by
  replace H := i_iln (q := 1) H I_X8_byteAt_0 rfl rfl
  replace H := i_aln (q := 2) H I_X8_byteAt_1 rfl rfl
  replace H := i_gfi (q := 5) H I_X8_byteAt_2 G_8_59 cn_X8_byteAt LY_71 rfl rfl
  have W := i_ic_ge (t := 17) (q := 8) H I_X8_byteAt_5 (by decide) rfl
  clear H
  rcases W with ⟨c_5, H⟩ | ⟨c_5, H⟩
  · skip
    replace H := i_bip (x := (-4)) (q := 19) H I_X8_byteAt_17 (by decide) rfl
    obtain ⟨hr, hh⟩ := i_ir H I_X8_byteAt_19
    refine ⟨hr.trans ?_, hh⟩
    rw [hx, hn, zofn_lt (by omega) (by omega)] at c_5
    first
    | (have e := zofn (hx.symm.trans ei_13) (by omega) (by omega); subst e; rw [if_pos c_5])
    | rw [if_neg c_5]
  · skip
    replace H := i_aln (q := 9) H I_X8_byteAt_8 rfl rfl
    replace H := i_gfr (q := 12) H I_X8_byteAt_9 G_8_19 cn_X8_byteAt LY_71 rfl rfl
    replace H := i_iln (q := 13) H I_X8_byteAt_12 rfl rfl
    have W := i_ia (q := 14) H I_X8_byteAt_13 LY_75 rfl
    clear H
    obtain ⟨i_13, bi_13, ei_13, H⟩ := W
    replace H := i_goto (q := 19) H I_X8_byteAt_14 (by decide)
    obtain ⟨hr, hh⟩ := i_ir H I_X8_byteAt_19
    refine ⟨hr.trans ?_, hh⟩
    rw [hx, hn, zofn_lt (by omega) (by omega)] at c_5
    first
    | (have e := zofn (hx.symm.trans ei_13) (by omega) (by omega); subst e; rw [if_pos c_5])
    | rw [if_neg c_5]
/-- what reading a token writes, of the reference -/
def zg1015 (m m1 : zM) : Prop := ∀ a b, ¬ (a = 71 ∧ 10 ≤ b ∧ b ≤ 15) → m1 a b = m a b
theorem st_blank : ∀ (j n p : Nat) (m : zM) (d : Nat) (r : Option Value) (h' : zHp) , n - p = j → m 71 8 = Int32.ofNat n → n ≤ 160 → m 71 12 = Int32.ofNat p → p ≤ n → (∀ i, i < n → ¬ m 75 i = -4) → zE none d zm_X8_step 8 [.ref 71, .null] [] m r h' → ∃ m1, zE none d zm_X8_step 34 [.ref 71, .null] [] m1 r h' ∧ m1 71 12 = Int32.ofNat (tE zsp (m 75) n p) ∧ ∀ a b, ¬ (a = 71 ∧ b = 12) → m1 a b = m a b := by
  intro j
  induction j with
  | zero =>
    intro n p m d r h'  hj hn hn2 hp hpn hb H
    replace H := i_aln (q := 9) H I_X8_step_8 rfl rfl
    replace H := i_aln (q := 10) H I_X8_step_9 rfl rfl
    replace H := i_gfi (q := 13) H I_X8_step_10 G_8_75 cn_X8_step LY_71 rfl rfl
    have W := i_cv1 0 (q := 16) H I_X8_step_13 K_8_78 Zm_117 rfl rfl
    clear H
    obtain ⟨r1, h1, Hc, K1, K2⟩ := W
    obtain ⟨e1, e2⟩ := t_X8_byteAt (x := _) hp (by omega) hn hn2 Hc
    have H := K1 _ _ e1 e2
    clear e1 e2 Hc K1 K2
    replace H := i_bip (x := 32) (q := 18) H I_X8_step_16 (by decide) rfl
    have W := i_ic_ne (t := 34) (q := 21) H I_X8_step_18 (by decide) rfl
    clear H
    rcases W with ⟨c_18, H⟩ | ⟨c_18, H⟩
    · skip
      refine ⟨m, H, ?_, fun a b _ => rfl⟩
      rw [hp]
      rcases Nat.lt_or_ge p n with w | w
      · rw [if_pos w] at c_18
        rw [tE_no (by simpa [zsp] using c_18)]
      · rw [tE_out (by omega)]
    · skip
      replace H := i_aln (q := 22) H I_X8_step_21 rfl rfl
      replace H := i_dup (q := 23) H I_X8_step_22 rfl rfl
      replace H := i_gfi (q := 26) H I_X8_step_23 G_8_75 cn_X8_step LY_71 rfl rfl
      replace H := i_icst (x := 1) (q := 27) H I_X8_step_26 (by decide) rfl
      replace H := i_iadd (q := 28) H I_X8_step_27 rfl
      replace H := i_pf (q := 31) H I_X8_step_28 G_8_75 cn_X8_step LY_71 rfl rfl
      replace H := i_goto (q := 8) H I_X8_step_31 (by decide)
      have hlt : p < n := by
        rcases Nat.lt_or_ge p n with w | w
        · exact w
        · rw [if_neg (by omega)] at c_18
          exact absurd c_18 (by decide)
      rw [if_pos hlt] at c_18
      have hy : zsp (m 75 p) = true := by simpa [zsp] using c_18
      omega
  | succ j ih =>
    intro n p m d r h'  hj hn hn2 hp hpn hb H
    replace H := i_aln (q := 9) H I_X8_step_8 rfl rfl
    replace H := i_aln (q := 10) H I_X8_step_9 rfl rfl
    replace H := i_gfi (q := 13) H I_X8_step_10 G_8_75 cn_X8_step LY_71 rfl rfl
    have W := i_cv1 0 (q := 16) H I_X8_step_13 K_8_78 Zm_117 rfl rfl
    clear H
    obtain ⟨r1, h1, Hc, K1, K2⟩ := W
    obtain ⟨e1, e2⟩ := t_X8_byteAt (x := _) hp (by omega) hn hn2 Hc
    have H := K1 _ _ e1 e2
    clear e1 e2 Hc K1 K2
    replace H := i_bip (x := 32) (q := 18) H I_X8_step_16 (by decide) rfl
    have W := i_ic_ne (t := 34) (q := 21) H I_X8_step_18 (by decide) rfl
    clear H
    rcases W with ⟨c_18, H⟩ | ⟨c_18, H⟩
    · skip
      refine ⟨m, H, ?_, fun a b _ => rfl⟩
      rw [hp]
      rcases Nat.lt_or_ge p n with w | w
      · rw [if_pos w] at c_18
        rw [tE_no (by simpa [zsp] using c_18)]
      · rw [tE_out (by omega)]
    · skip
      replace H := i_aln (q := 22) H I_X8_step_21 rfl rfl
      replace H := i_dup (q := 23) H I_X8_step_22 rfl rfl
      replace H := i_gfi (q := 26) H I_X8_step_23 G_8_75 cn_X8_step LY_71 rfl rfl
      replace H := i_icst (x := 1) (q := 27) H I_X8_step_26 (by decide) rfl
      replace H := i_iadd (q := 28) H I_X8_step_27 rfl
      replace H := i_pf (q := 31) H I_X8_step_28 G_8_75 cn_X8_step LY_71 rfl rfl
      replace H := i_goto (q := 8) H I_X8_step_31 (by decide)
      have hlt : p < n := by
        rcases Nat.lt_or_ge p n with w | w
        · exact w
        · rw [if_neg (by omega)] at c_18
          exact absurd c_18 (by decide)
      rw [if_pos hlt] at c_18
      have hy : zsp (m 75 p) = true := by simpa [zsp] using c_18
      obtain ⟨m1, H1, h1, h2⟩ := ih n (p + 1) _ d r h'  (by omega) (by rw [zup_n (by omega)]; exact hn) hn2 (by rw [zup_s, hp, zofn_1]) (by omega) (fun i hi => by rw [zup_n (by omega)]; exact hb i hi) H
      refine ⟨m1, H1, ?_, fun a b hab => ?_⟩
      · rw [h1, tE_yes (f := zsp) hlt hy]
        congr 1
      · rw [h2 a b hab, zup_n hab]
theorem st_name : ∀ (j n p : Nat) (m : zM) (d : Nat) (r : Option Value) (h' : zHp) (c : Int32), n - p = j → m 71 8 = Int32.ofNat n → n ≤ 160 → m 71 12 = Int32.ofNat p → p ≤ n → (∀ i, i < n → ¬ m 75 i = -4) → zE none d zm_X8_step 84 [.ref 71, .int c] [] m r h' → ∃ m1, zE none d zm_X8_step 118 [.ref 71, .int c] [] m1 r h' ∧ m1 71 12 = Int32.ofNat (tE zlt (m 75) n p) ∧ ∀ a b, ¬ (a = 71 ∧ b = 12) → m1 a b = m a b := by
  intro j
  induction j with
  | zero =>
    intro n p m d r h' c hj hn hn2 hp hpn hb H
    replace H := i_aln (q := 85) H I_X8_step_84 rfl rfl
    replace H := i_aln (q := 86) H I_X8_step_85 rfl rfl
    replace H := i_gfi (q := 89) H I_X8_step_86 G_8_75 cn_X8_step LY_71 rfl rfl
    have W := i_cv1 0 (q := 92) H I_X8_step_89 K_8_78 Zm_117 rfl rfl
    clear H
    obtain ⟨r1, h1, Hc, K1, K2⟩ := W
    obtain ⟨e1, e2⟩ := t_X8_byteAt (x := _) hp (by omega) hn hn2 Hc
    have H := K1 _ _ e1 e2
    clear e1 e2 Hc K1 K2
    replace H := i_i2l (q := 93) H I_X8_step_92 rfl
    replace H := i_ldc2 (x := 97) (q := 96) H I_X8_step_93 J_8_85 (by decide) rfl
    replace H := i_ldc2 (x := 122) (q := 99) H I_X8_step_96 J_8_87 (by decide) rfl
    replace H := i_in (q := 102) H I_X8_step_99 K_8_55 rfl
    have W := i_if_eq (t := 118) (q := 105) H I_X8_step_102 (by decide) rfl
    clear H
    rcases W with ⟨c_102, H⟩ | ⟨c_102, H⟩
    · skip
      refine ⟨m, H, ?_, fun a b _ => rfl⟩
      rw [hp]
      rcases Nat.lt_or_ge p n with w | w
      · rw [if_pos w] at c_102
        rw [tE_no (by simpa [zin_lt] using c_102)]
      · rw [tE_out (by omega)]
    · skip
      replace H := i_aln (q := 106) H I_X8_step_105 rfl rfl
      replace H := i_dup (q := 107) H I_X8_step_106 rfl rfl
      replace H := i_gfi (q := 110) H I_X8_step_107 G_8_75 cn_X8_step LY_71 rfl rfl
      replace H := i_icst (x := 1) (q := 111) H I_X8_step_110 (by decide) rfl
      replace H := i_iadd (q := 112) H I_X8_step_111 rfl
      replace H := i_pf (q := 115) H I_X8_step_112 G_8_75 cn_X8_step LY_71 rfl rfl
      replace H := i_goto (q := 84) H I_X8_step_115 (by decide)
      have hlt : p < n := by
        rcases Nat.lt_or_ge p n with w | w
        · exact w
        · rw [if_neg (by omega)] at c_102
          exact absurd (show zin64 (Int32.toInt64 (-4)) 97 122 = 0 by decide) c_102
      rw [if_pos hlt] at c_102
      have hy : zlt (m 75 p) = true := by simpa [zin_lt] using c_102
      omega
  | succ j ih =>
    intro n p m d r h' c hj hn hn2 hp hpn hb H
    replace H := i_aln (q := 85) H I_X8_step_84 rfl rfl
    replace H := i_aln (q := 86) H I_X8_step_85 rfl rfl
    replace H := i_gfi (q := 89) H I_X8_step_86 G_8_75 cn_X8_step LY_71 rfl rfl
    have W := i_cv1 0 (q := 92) H I_X8_step_89 K_8_78 Zm_117 rfl rfl
    clear H
    obtain ⟨r1, h1, Hc, K1, K2⟩ := W
    obtain ⟨e1, e2⟩ := t_X8_byteAt (x := _) hp (by omega) hn hn2 Hc
    have H := K1 _ _ e1 e2
    clear e1 e2 Hc K1 K2
    replace H := i_i2l (q := 93) H I_X8_step_92 rfl
    replace H := i_ldc2 (x := 97) (q := 96) H I_X8_step_93 J_8_85 (by decide) rfl
    replace H := i_ldc2 (x := 122) (q := 99) H I_X8_step_96 J_8_87 (by decide) rfl
    replace H := i_in (q := 102) H I_X8_step_99 K_8_55 rfl
    have W := i_if_eq (t := 118) (q := 105) H I_X8_step_102 (by decide) rfl
    clear H
    rcases W with ⟨c_102, H⟩ | ⟨c_102, H⟩
    · skip
      refine ⟨m, H, ?_, fun a b _ => rfl⟩
      rw [hp]
      rcases Nat.lt_or_ge p n with w | w
      · rw [if_pos w] at c_102
        rw [tE_no (by simpa [zin_lt] using c_102)]
      · rw [tE_out (by omega)]
    · skip
      replace H := i_aln (q := 106) H I_X8_step_105 rfl rfl
      replace H := i_dup (q := 107) H I_X8_step_106 rfl rfl
      replace H := i_gfi (q := 110) H I_X8_step_107 G_8_75 cn_X8_step LY_71 rfl rfl
      replace H := i_icst (x := 1) (q := 111) H I_X8_step_110 (by decide) rfl
      replace H := i_iadd (q := 112) H I_X8_step_111 rfl
      replace H := i_pf (q := 115) H I_X8_step_112 G_8_75 cn_X8_step LY_71 rfl rfl
      replace H := i_goto (q := 84) H I_X8_step_115 (by decide)
      have hlt : p < n := by
        rcases Nat.lt_or_ge p n with w | w
        · exact w
        · rw [if_neg (by omega)] at c_102
          exact absurd (show zin64 (Int32.toInt64 (-4)) 97 122 = 0 by decide) c_102
      rw [if_pos hlt] at c_102
      have hy : zlt (m 75 p) = true := by simpa [zin_lt] using c_102
      obtain ⟨m1, H1, h1, h2⟩ := ih n (p + 1) _ d r h' c (by omega) (by rw [zup_n (by omega)]; exact hn) hn2 (by rw [zup_s, hp, zofn_1]) (by omega) (fun i hi => by rw [zup_n (by omega)]; exact hb i hi) H
      refine ⟨m1, H1, ?_, fun a b hab => ?_⟩
      · rw [h1, tE_yes (f := zlt) hlt hy]
        congr 1
      · rw [h2 a b hab, zup_n hab]
theorem st_dig : ∀ (j n p s : Nat) (m : zM) (d : Nat) (r : Option Value) (h' : zHp) (c : Int32), n - p = j → m 71 8 = Int32.ofNat n → n ≤ 160 → m 71 12 = Int32.ofNat p → p ≤ n → s ≤ p → m 71 13 = Int32.ofNat s → (p = s → m 71 15 = 0) → (p = s + 1 → m 71 15 = m 75 s - 48) → (p = s + 2 → m 71 15 = (m 75 s - 48) * 10 + m 75 (s + 1) - 48) → (∀ i, i < n → ¬ m 75 i = -4) → zE none d zm_X8_step 140 [.ref 71, .int c] [] m r h' → ∃ m1, zE none d zm_X8_step 217 [.ref 71, .int c] [] m1 r h' ∧ m1 71 12 = Int32.ofNat (tE zdg (m 75) n p) ∧ (tE zdg (m 75) n p = s → m1 71 15 = 0) ∧ (tE zdg (m 75) n p = s + 1 → m1 71 15 = m 75 s - 48) ∧ (tE zdg (m 75) n p = s + 2 → m1 71 15 = (m 75 s - 48) * 10 + m 75 (s + 1) - 48) ∧ ∀ a b, ¬ (a = 71 ∧ (b = 12 ∨ b = 15)) → m1 a b = m a b := by
  intro j
  induction j with
  | zero =>
    intro n p s m d r h' c hj hn hn2 hp hpn hsp hs hv0 hv1 hv2 hb H
    replace H := i_aln (q := 141) H I_X8_step_140 rfl rfl
    replace H := i_aln (q := 142) H I_X8_step_141 rfl rfl
    replace H := i_gfi (q := 145) H I_X8_step_142 G_8_75 cn_X8_step LY_71 rfl rfl
    have W := i_cv1 0 (q := 148) H I_X8_step_145 K_8_78 Zm_117 rfl rfl
    clear H
    obtain ⟨r1, h1, Hc, K1, K2⟩ := W
    obtain ⟨e1, e2⟩ := t_X8_byteAt hp (by omega) hn hn2 Hc
    have H := K1 _ _ e1 e2
    clear e1 e2 Hc K1 K2
    replace H := i_i2l (q := 149) H I_X8_step_148 rfl
    replace H := i_ldc2 (x := 48) (q := 152) H I_X8_step_149 J_8_89 (by decide) rfl
    replace H := i_ldc2 (x := 57) (q := 155) H I_X8_step_152 J_8_91 (by decide) rfl
    replace H := i_in (q := 158) H I_X8_step_155 K_8_55 rfl
    have W := i_if_eq (t := 217) (q := 161) H I_X8_step_158 (by decide) rfl
    clear H
    rcases W with ⟨c_158, H⟩ | ⟨c_158, H⟩
    · skip
      have e3 : tE zdg (m 75) n p = p := by
        rcases Nat.lt_or_ge p n with w | w
        · rw [if_pos w] at c_158
          exact tE_no (by simpa [zin_dg] using c_158)
        · exact tE_out (by omega)
      exact ⟨m, H, by rw [e3, hp], by rw [e3]; exact hv0, by rw [e3]; exact hv1, by rw [e3]; exact hv2, fun a b _ => rfl⟩
    · skip
      replace H := i_aln (q := 162) H I_X8_step_161 rfl rfl
      replace H := i_aln (q := 163) H I_X8_step_162 rfl rfl
      replace H := i_gfi (q := 166) H I_X8_step_163 G_8_75 cn_X8_step LY_71 rfl rfl
      replace H := i_aln (q := 167) H I_X8_step_166 rfl rfl
      replace H := i_gfi (q := 170) H I_X8_step_167 G_8_66 cn_X8_step LY_71 rfl rfl
      replace H := i_isub (q := 171) H I_X8_step_170 rfl
      replace H := i_icst (x := 2) (q := 172) H I_X8_step_171 (by decide) rfl
      have W := i_ic_ge (t := 197) (q := 175) H I_X8_step_172 (by decide) rfl
      clear H
      rcases W with ⟨c_172, H⟩ | ⟨c_172, H⟩
      · skip
        replace H := i_aln (q := 198) H I_X8_step_197 rfl rfl
        replace H := i_gfi (q := 201) H I_X8_step_198 G_8_82 cn_X8_step LY_71 rfl rfl
        replace H := i_pf (q := 204) H I_X8_step_201 G_8_82 cn_X8_step LY_71 rfl rfl
        replace H := i_aln (q := 205) H I_X8_step_204 rfl rfl
        replace H := i_dup (q := 206) H I_X8_step_205 rfl rfl
        replace H := i_gfi (q := 209) H I_X8_step_206 G_8_75 cn_X8_step LY_71 rfl rfl
        replace H := i_icst (x := 1) (q := 210) H I_X8_step_209 (by decide) rfl
        replace H := i_iadd (q := 211) H I_X8_step_210 rfl
        replace H := i_pf (q := 214) H I_X8_step_211 G_8_75 cn_X8_step LY_71 rfl rfl
        replace H := i_goto (q := 140) H I_X8_step_214 (by decide)
        have hlt : p < n := by
          rcases Nat.lt_or_ge p n with w | w
          · exact w
          · rw [if_neg (by omega)] at c_158
            exact absurd (show zin64 (Int32.toInt64 (-4)) 48 57 = 0 by decide) c_158
        rw [if_pos hlt] at c_158
        have hy : zdg (m 75 p) = true := by simpa [zin_dg] using c_158
        omega
      · skip
        replace H := i_bip (x := 10) (q := 177) H I_X8_step_175 (by decide) rfl
        replace H := i_aln (q := 178) H I_X8_step_177 rfl rfl
        replace H := i_gfi (q := 181) H I_X8_step_178 G_8_82 cn_X8_step LY_71 rfl rfl
        replace H := i_imul (q := 182) H I_X8_step_181 rfl
        replace H := i_aln (q := 183) H I_X8_step_182 rfl rfl
        replace H := i_aln (q := 184) H I_X8_step_183 rfl rfl
        replace H := i_gfi (q := 187) H I_X8_step_184 G_8_75 cn_X8_step LY_71 rfl rfl
        have W := i_cv1 0 (q := 190) H I_X8_step_187 K_8_78 Zm_117 rfl rfl
        clear H
        obtain ⟨r1, h1, Hc, K1, K2⟩ := W
        obtain ⟨e1, e2⟩ := t_X8_byteAt hp (by omega) hn hn2 Hc
        have H := K1 _ _ e1 e2
        clear e1 e2 Hc K1 K2
        replace H := i_iadd (q := 191) H I_X8_step_190 rfl
        replace H := i_bip (x := 48) (q := 193) H I_X8_step_191 (by decide) rfl
        replace H := i_isub (q := 194) H I_X8_step_193 rfl
        replace H := i_goto (q := 201) H I_X8_step_194 (by decide)
        replace H := i_pf (q := 204) H I_X8_step_201 G_8_82 cn_X8_step LY_71 rfl rfl
        replace H := i_aln (q := 205) H I_X8_step_204 rfl rfl
        replace H := i_dup (q := 206) H I_X8_step_205 rfl rfl
        replace H := i_gfi (q := 209) H I_X8_step_206 G_8_75 cn_X8_step LY_71 rfl rfl
        replace H := i_icst (x := 1) (q := 210) H I_X8_step_209 (by decide) rfl
        replace H := i_iadd (q := 211) H I_X8_step_210 rfl
        replace H := i_pf (q := 214) H I_X8_step_211 G_8_75 cn_X8_step LY_71 rfl rfl
        replace H := i_goto (q := 140) H I_X8_step_214 (by decide)
        have hlt : p < n := by
          rcases Nat.lt_or_ge p n with w | w
          · exact w
          · rw [if_neg (by omega)] at c_158
            exact absurd (show zin64 (Int32.toInt64 (-4)) 48 57 = 0 by decide) c_158
        rw [if_pos hlt] at c_158
        have hy : zdg (m 75 p) = true := by simpa [zin_dg] using c_158
        omega
  | succ j ih =>
    intro n p s m d r h' c hj hn hn2 hp hpn hsp hs hv0 hv1 hv2 hb H
    replace H := i_aln (q := 141) H I_X8_step_140 rfl rfl
    replace H := i_aln (q := 142) H I_X8_step_141 rfl rfl
    replace H := i_gfi (q := 145) H I_X8_step_142 G_8_75 cn_X8_step LY_71 rfl rfl
    have W := i_cv1 0 (q := 148) H I_X8_step_145 K_8_78 Zm_117 rfl rfl
    clear H
    obtain ⟨r1, h1, Hc, K1, K2⟩ := W
    obtain ⟨e1, e2⟩ := t_X8_byteAt hp (by omega) hn hn2 Hc
    have H := K1 _ _ e1 e2
    clear e1 e2 Hc K1 K2
    replace H := i_i2l (q := 149) H I_X8_step_148 rfl
    replace H := i_ldc2 (x := 48) (q := 152) H I_X8_step_149 J_8_89 (by decide) rfl
    replace H := i_ldc2 (x := 57) (q := 155) H I_X8_step_152 J_8_91 (by decide) rfl
    replace H := i_in (q := 158) H I_X8_step_155 K_8_55 rfl
    have W := i_if_eq (t := 217) (q := 161) H I_X8_step_158 (by decide) rfl
    clear H
    rcases W with ⟨c_158, H⟩ | ⟨c_158, H⟩
    · skip
      have e3 : tE zdg (m 75) n p = p := by
        rcases Nat.lt_or_ge p n with w | w
        · rw [if_pos w] at c_158
          exact tE_no (by simpa [zin_dg] using c_158)
        · exact tE_out (by omega)
      exact ⟨m, H, by rw [e3, hp], by rw [e3]; exact hv0, by rw [e3]; exact hv1, by rw [e3]; exact hv2, fun a b _ => rfl⟩
    · skip
      replace H := i_aln (q := 162) H I_X8_step_161 rfl rfl
      replace H := i_aln (q := 163) H I_X8_step_162 rfl rfl
      replace H := i_gfi (q := 166) H I_X8_step_163 G_8_75 cn_X8_step LY_71 rfl rfl
      replace H := i_aln (q := 167) H I_X8_step_166 rfl rfl
      replace H := i_gfi (q := 170) H I_X8_step_167 G_8_66 cn_X8_step LY_71 rfl rfl
      replace H := i_isub (q := 171) H I_X8_step_170 rfl
      replace H := i_icst (x := 2) (q := 172) H I_X8_step_171 (by decide) rfl
      have W := i_ic_ge (t := 197) (q := 175) H I_X8_step_172 (by decide) rfl
      clear H
      rcases W with ⟨c_172, H⟩ | ⟨c_172, H⟩
      · skip
        replace H := i_aln (q := 198) H I_X8_step_197 rfl rfl
        replace H := i_gfi (q := 201) H I_X8_step_198 G_8_82 cn_X8_step LY_71 rfl rfl
        replace H := i_pf (q := 204) H I_X8_step_201 G_8_82 cn_X8_step LY_71 rfl rfl
        replace H := i_aln (q := 205) H I_X8_step_204 rfl rfl
        replace H := i_dup (q := 206) H I_X8_step_205 rfl rfl
        replace H := i_gfi (q := 209) H I_X8_step_206 G_8_75 cn_X8_step LY_71 rfl rfl
        replace H := i_icst (x := 1) (q := 210) H I_X8_step_209 (by decide) rfl
        replace H := i_iadd (q := 211) H I_X8_step_210 rfl
        replace H := i_pf (q := 214) H I_X8_step_211 G_8_75 cn_X8_step LY_71 rfl rfl
        replace H := i_goto (q := 140) H I_X8_step_214 (by decide)
        have hlt : p < n := by
          rcases Nat.lt_or_ge p n with w | w
          · exact w
          · rw [if_neg (by omega)] at c_158
            exact absurd (show zin64 (Int32.toInt64 (-4)) 48 57 = 0 by decide) c_158
        rw [if_pos hlt] at c_158
        have hy : zdg (m 75 p) = true := by simpa [zin_dg] using c_158
        have hsub : m 71 12 - m 71 13 = Int32.ofNat (p - s) := by rw [hp, hs, ← zofn_sub (by omega)]
        rw [hsub] at c_172
        have hge : 2 ≤ p - s := Nat.le_of_not_lt (fun w => c_172 ((zofn_lt (j := 2) (by omega) (by decide)).mpr w))
        obtain ⟨m1, H1, h1, h2a, h2, h3, h4⟩ := ih n (p + 1) s _ d r h' c (by omega) (by rw [zup_n (by omega), zup_n (by omega)]; exact hn) hn2 (by rw [zup_s, zup_n (by omega), hp, zofn_1]) (by omega) (by omega) (by rw [zup_n (by omega), zup_n (by omega)]; exact hs) (fun e => by omega) (fun e => by omega) (fun e => by omega) (fun i hi => by rw [zup_n (by omega), zup_n (by omega)]; exact hb i hi) H
        have gt : ∀ x y, zup (zup m 71 15 x) 71 12 y 75 = m 75 := fun x y => by funext b; rw [zup_n (by omega), zup_n (by omega)]
        rw [gt] at h1 h2a h2 h3
        have e3 := tE_yes (f := zdg) hlt hy
        refine ⟨m1, H1, ?_, ?_, ?_, ?_, fun a b hab => ?_⟩
        · rw [h1, e3]
        · rw [e3]; exact h2a
        · rw [e3]; exact h2
        · rw [e3]; exact h3
        · rw [h4 a b hab, zup_n (fun w => hab ⟨w.1, Or.inl w.2⟩), zup_n (fun w => hab ⟨w.1, Or.inr w.2⟩)]
      · skip
        replace H := i_bip (x := 10) (q := 177) H I_X8_step_175 (by decide) rfl
        replace H := i_aln (q := 178) H I_X8_step_177 rfl rfl
        replace H := i_gfi (q := 181) H I_X8_step_178 G_8_82 cn_X8_step LY_71 rfl rfl
        replace H := i_imul (q := 182) H I_X8_step_181 rfl
        replace H := i_aln (q := 183) H I_X8_step_182 rfl rfl
        replace H := i_aln (q := 184) H I_X8_step_183 rfl rfl
        replace H := i_gfi (q := 187) H I_X8_step_184 G_8_75 cn_X8_step LY_71 rfl rfl
        have W := i_cv1 0 (q := 190) H I_X8_step_187 K_8_78 Zm_117 rfl rfl
        clear H
        obtain ⟨r1, h1, Hc, K1, K2⟩ := W
        obtain ⟨e1, e2⟩ := t_X8_byteAt hp (by omega) hn hn2 Hc
        have H := K1 _ _ e1 e2
        clear e1 e2 Hc K1 K2
        replace H := i_iadd (q := 191) H I_X8_step_190 rfl
        replace H := i_bip (x := 48) (q := 193) H I_X8_step_191 (by decide) rfl
        replace H := i_isub (q := 194) H I_X8_step_193 rfl
        replace H := i_goto (q := 201) H I_X8_step_194 (by decide)
        replace H := i_pf (q := 204) H I_X8_step_201 G_8_82 cn_X8_step LY_71 rfl rfl
        replace H := i_aln (q := 205) H I_X8_step_204 rfl rfl
        replace H := i_dup (q := 206) H I_X8_step_205 rfl rfl
        replace H := i_gfi (q := 209) H I_X8_step_206 G_8_75 cn_X8_step LY_71 rfl rfl
        replace H := i_icst (x := 1) (q := 210) H I_X8_step_209 (by decide) rfl
        replace H := i_iadd (q := 211) H I_X8_step_210 rfl
        replace H := i_pf (q := 214) H I_X8_step_211 G_8_75 cn_X8_step LY_71 rfl rfl
        replace H := i_goto (q := 140) H I_X8_step_214 (by decide)
        have hlt : p < n := by
          rcases Nat.lt_or_ge p n with w | w
          · exact w
          · rw [if_neg (by omega)] at c_158
            exact absurd (show zin64 (Int32.toInt64 (-4)) 48 57 = 0 by decide) c_158
        rw [if_pos hlt] at c_158
        have hy : zdg (m 75 p) = true := by simpa [zin_dg] using c_158
        have hsub : m 71 12 - m 71 13 = Int32.ofNat (p - s) := by rw [hp, hs, ← zofn_sub (by omega)]
        rw [hsub] at c_172
        have hlt2 : p - s < 2 := (zofn_lt (j := 2) (by omega) (by decide)).mp c_172
        rw [if_pos hlt] at H
        obtain ⟨m1, H1, h1, h2a, h2, h3, h4⟩ := ih n (p + 1) s _ d r h' c (by omega) (by rw [zup_n (by omega), zup_n (by omega)]; exact hn) hn2 (by rw [zup_s, zup_n (by omega), hp, zofn_1]) (by omega) (by omega) (by rw [zup_n (by omega), zup_n (by omega)]; exact hs) (fun e => by omega) (fun e => by
          have e2 : p = s := by omega
          subst e2
          rw [zup_n (by omega), zup_s, hv0 rfl]
          rw [zup_n (by omega), zup_n (by omega)]
          simp) (fun e => by
          have e2 : p = s + 1 := by omega
          subst e2
          rw [zup_n (by omega), zup_s, hv1 rfl, Int32.mul_comm]
          rw [zup_n (by omega), zup_n (by omega), zup_n (by omega), zup_n (by omega)]) (fun i hi => by rw [zup_n (by omega), zup_n (by omega)]; exact hb i hi) H
        have gt : ∀ x y, zup (zup m 71 15 x) 71 12 y 75 = m 75 := fun x y => by funext b; rw [zup_n (by omega), zup_n (by omega)]
        rw [gt] at h1 h2a h2 h3
        have e3 := tE_yes (f := zdg) hlt hy
        refine ⟨m1, H1, ?_, ?_, ?_, ?_, fun a b hab => ?_⟩
        · rw [h1, e3]
        · rw [e3]; exact h2a
        · rw [e3]; exact h2
        · rw [e3]; exact h3
        · rw [h4 a b hab, zup_n (fun w => hab ⟨w.1, Or.inl w.2⟩), zup_n (fun w => hab ⟨w.1, Or.inr w.2⟩)]
theorem t_X8_step0 {d : Nat} {m : zM} {r : Option Value} {h' : zHp} (h0 : 0 < m 71 10) (H : zE none d zm_X8_step 0 [.ref 71, .null] [] m r h') : r = none ∧ h' = zhp m := by
  replace H := i_aln (q := 1) H I_X8_step_0 rfl rfl
  replace H := i_gfi (q := 4) H I_X8_step_1 G_8_63 cn_X8_step LY_71 rfl rfl
  have W := i_if_le (t := 8) (q := 7) H I_X8_step_4 (by decide) rfl
  clear H
  rcases W with ⟨c_4, H⟩ | ⟨c_4, H⟩
  · skip
    exact absurd h0 c_4
  · skip
    obtain ⟨hr, hh⟩ := i_rt H I_X8_step_7
    exact ⟨hr, hh⟩
theorem t_X8_step {d : Nat} {m : zM} {r : Option Value} {h' : zHp} {n p : Nat} (h0 : m 71 10 = 0) (hn : m 71 8 = Int32.ofNat n) (hn2 : n ≤ 160) (hp : m 71 12 = Int32.ofNat p) (hpn : p ≤ n) (hb : ∀ i, i < n → ¬ m 75 i = -4) (H : zE none d zm_X8_step 0 [.ref 71, .null] [] m r h') : ∃ m1, r = none ∧ h' = zhp m1 ∧ m1 71 12 = Int32.ofNat (tN (m 75) n p) ∧ m1 71 13 = Int32.ofNat (tS (m 75) n p) ∧ (¬ tK (m 75) n p = 4 → m1 71 14 = tK (m 75) n p ∧ m1 71 10 = 0) ∧ (tK (m 75) n p = 4 → m1 71 10 = 1 ∧ m1 71 11 = Int32.ofNat (tS (m 75) n p)) ∧ (tK (m 75) n p = 2 → m1 71 15 = tV (m 75) n p) ∧ zg1015 m m1 := by
  replace H := i_aln (q := 1) H I_X8_step_0 rfl rfl
  replace H := i_gfi (q := 4) H I_X8_step_1 G_8_63 cn_X8_step LY_71 rfl rfl
  have W := i_if_le (t := 8) (q := 7) H I_X8_step_4 (by decide) rfl
  clear H
  rcases W with ⟨c_4, H⟩ | ⟨c_4, H⟩
  · skip
    obtain ⟨m1, H, f12, ff⟩ := st_blank _ n p m d r h' rfl hn hn2 hp hpn hb H
    have f12 : m1 71 12 = Int32.ofNat (tS (m 75) n p) := f12
    have hsn : tS (m 75) n p ≤ n := tE_le hpn
    replace H := i_aln (q := 35) H I_X8_step_34 rfl rfl
    replace H := i_aln (q := 36) H I_X8_step_35 rfl rfl
    replace H := i_gfi (q := 39) H I_X8_step_36 G_8_75 cn_X8_step LY_71 rfl rfl
    replace H := i_pf (q := 42) H I_X8_step_39 G_8_66 cn_X8_step LY_71 rfl rfl
    replace H := i_aln (q := 43) H I_X8_step_42 rfl rfl
    replace H := i_aln (q := 44) H I_X8_step_43 rfl rfl
    replace H := i_gfi (q := 47) H I_X8_step_44 G_8_75 cn_X8_step LY_71 rfl rfl
    have W := i_cv1 0 (q := 50) H I_X8_step_47 K_8_78 Zm_117 rfl rfl
    clear H
    obtain ⟨r1, h1, Hc, K1, K2⟩ := W
    obtain ⟨e1, e2⟩ := t_X8_byteAt (p := tS (m 75) n p) (n := n) (by rw [zup_n (by omega)]; exact f12) (by omega) (by rw [zup_n (by omega), ff 71 8 (by omega)]; exact hn) hn2 Hc
    have H := K1 _ _ e1 e2
    clear e1 e2 Hc K1 K2
    replace H := i_isn (q := 51) H I_X8_step_50 rfl rfl
    replace H := i_aln (q := 52) H I_X8_step_51 rfl rfl
    replace H := i_icst (x := 0) (q := 53) H I_X8_step_52 (by decide) rfl
    replace H := i_pf (q := 56) H I_X8_step_53 G_8_82 cn_X8_step LY_71 rfl rfl
    rw [show zup m1 71 13 (m1 71 12) 75 = m 75 from by funext b; rw [zup_n (by omega), ff 75 b (by omega)]] at H
    obtain ⟨m2, H, g12, g13, g15, g8, gf⟩ : ∃ m2, zE none d zm_X8_step 56 [.ref 71, .int (if tS (m 75) n p < n then m 75 (tS (m 75) n p) else -4)] [] m2 r h' ∧ m2 71 12 = Int32.ofNat (tS (m 75) n p) ∧ m2 71 13 = Int32.ofNat (tS (m 75) n p) ∧ m2 71 15 = 0 ∧ m2 71 8 = Int32.ofNat n ∧ ∀ a b, ¬ (a = 71 ∧ 12 ≤ b ∧ b ≤ 15) → m2 a b = m a b := ⟨_, H, by rw [zup_n (by omega), zup_n (by omega)]; exact f12, by rw [zup_n (by omega), zup_s]; exact f12, zup_s _ _ _ _, by rw [zup_n (by omega), zup_n (by omega), ff 71 8 (by omega)]; exact hn, fun a b hab => by rw [zup_n (by omega), zup_n (by omega), ff a b (by omega)]⟩
    replace H := i_iln (q := 57) H I_X8_step_56 rfl rfl
    replace H := i_bip (x := (-4)) (q := 59) H I_X8_step_57 (by decide) rfl
    have W := i_ic_ne (t := 70) (q := 62) H I_X8_step_59 (by decide) rfl
    clear H
    rcases W with ⟨c_59, H⟩ | ⟨c_59, H⟩
    · skip
      replace H := i_iln (q := 71) H I_X8_step_70 rfl rfl
      replace H := i_i2l (q := 72) H I_X8_step_71 rfl
      replace H := i_ldc2 (x := 97) (q := 75) H I_X8_step_72 J_8_85 (by decide) rfl
      replace H := i_ldc2 (x := 122) (q := 78) H I_X8_step_75 J_8_87 (by decide) rfl
      replace H := i_in (q := 81) H I_X8_step_78 K_8_55 rfl
      have W := i_if_eq (t := 126) (q := 84) H I_X8_step_81 (by decide) rfl
      clear H
      rcases W with ⟨c_81, H⟩ | ⟨c_81, H⟩
      · skip
        replace H := i_iln (q := 127) H I_X8_step_126 rfl rfl
        replace H := i_i2l (q := 128) H I_X8_step_127 rfl
        replace H := i_ldc2 (x := 48) (q := 131) H I_X8_step_128 J_8_89 (by decide) rfl
        replace H := i_ldc2 (x := 57) (q := 134) H I_X8_step_131 J_8_91 (by decide) rfl
        replace H := i_in (q := 137) H I_X8_step_134 K_8_55 rfl
        have W := i_if_eq (t := 243) (q := 140) H I_X8_step_137 (by decide) rfl
        clear H
        rcases W with ⟨c_137, H⟩ | ⟨c_137, H⟩
        · skip
          replace H := i_aln (q := 244) H I_X8_step_243 rfl rfl
          replace H := i_icst (x := 3) (q := 245) H I_X8_step_244 (by decide) rfl
          replace H := i_pf (q := 248) H I_X8_step_245 G_8_72 cn_X8_step LY_71 rfl rfl
          replace H := i_aln (q := 249) H I_X8_step_248 rfl rfl
          replace H := i_dup (q := 250) H I_X8_step_249 rfl rfl
          replace H := i_gfi (q := 253) H I_X8_step_250 G_8_75 cn_X8_step LY_71 rfl rfl
          replace H := i_icst (x := 1) (q := 254) H I_X8_step_253 (by decide) rfl
          replace H := i_iadd (q := 255) H I_X8_step_254 rfl
          replace H := i_pf (q := 258) H I_X8_step_255 G_8_75 cn_X8_step LY_71 rfl rfl
          replace H := i_iln (q := 259) H I_X8_step_258 rfl rfl
          replace H := i_bip (x := 59) (q := 261) H I_X8_step_259 (by decide) rfl
          have W := i_ic_eq (t := 269) (q := 264) H I_X8_step_261 (by decide) rfl
          clear H
          rcases W with ⟨c_261, H⟩ | ⟨c_261, H⟩
          · skip
            obtain ⟨hr, hh⟩ := i_rt H I_X8_step_269
            have hns : tS (m 75) n p < n := by
              rcases Nat.lt_or_ge (tS (m 75) n p) n with w | w
              · exact w
              · rw [if_neg (by omega)] at c_59; exact absurd rfl c_59
            rw [if_pos hns] at H c_59
            have gt2 : m2 75 = m 75 := by funext b; exact gf 75 b (by omega)
            generalize hS : tS (m 75) n p = s at *
            have hns2 : ¬ n ≤ s := by omega
            rw [if_pos hns, zin_lt] at c_81
            rw [if_pos hns, zin_dg] at c_137
            rw [if_pos hns] at c_261
            have hL : zlt (m 75 s) = false := by simpa using c_81
            have hD : zdg (m 75 s) = false := by simpa using c_137
            have g10 : m2 71 10 = 0 := by rw [gf 71 10 (by omega), h0]
            have hk : tK (m 75) n p = 3 := by
              simp only [tK, tKs, hS, if_neg hns2, hL, hD, Bool.false_eq_true, if_false]
              rw [if_pos c_261]
            refine ⟨_, hr, hh, ?_, ?_, ?_, ?_, ?_, ?_⟩
            · rw [zup_s, zup_n (by omega), g12, zofn_1]; simp [tN, tNs, hS, hns2, hL, hD]
            · rw [zup_n (by omega), zup_n (by omega), g13]
            · intro _
              rw [zup_n (by omega), zup_s, zup_n (by omega), zup_n (by omega), g10, hk]
              exact ⟨rfl, rfl⟩
            · rw [hk]; intro w; exact absurd w (by decide)
            · rw [hk]; intro w; exact absurd w (by decide)
            · intro a b hab
              rw [zup_n (by omega), zup_n (by omega), gf a b (by omega)]
          · skip
            replace H := i_aln (q := 265) H I_X8_step_264 rfl rfl
            replace H := i_icst (x := 1) (q := 266) H I_X8_step_265 (by decide) rfl
            have W := i_cv1 0 (q := 269) H I_X8_step_266 K_8_93 Zm_118 rfl rfl
            clear H
            obtain ⟨r1, h1, Hc, K1, K2⟩ := W
            obtain ⟨e1, e2⟩ := t_X8_fails Hc
            have H := K2 _ e1 e2
            clear e1 e2 Hc K1 K2
            obtain ⟨hr, hh⟩ := i_rt H I_X8_step_269
            have hns : tS (m 75) n p < n := by
              rcases Nat.lt_or_ge (tS (m 75) n p) n with w | w
              · exact w
              · rw [if_neg (by omega)] at c_59; exact absurd rfl c_59
            rw [if_pos hns] at H c_59
            have gt2 : m2 75 = m 75 := by funext b; exact gf 75 b (by omega)
            generalize hS : tS (m 75) n p = s at *
            have hns2 : ¬ n ≤ s := by omega
            rw [if_pos hns, zin_lt] at c_81
            rw [if_pos hns, zin_dg] at c_137
            rw [if_pos hns] at c_261
            have hL : zlt (m 75 s) = false := by simpa using c_81
            have hD : zdg (m 75 s) = false := by simpa using c_137
            have g10 : m2 71 10 = 0 := by rw [gf 71 10 (by omega), h0]
            have hk : tK (m 75) n p = 4 := by
              simp only [tK, tKs, hS, if_neg hns2, hL, hD, Bool.false_eq_true, if_false]
              rw [if_neg c_261]
            rw [zup_n (by omega), zup_n (by omega), g10, if_pos rfl] at hh
            refine ⟨_, hr, hh, ?_, ?_, ?_, ?_, ?_, ?_⟩
            · rw [zup_n (by omega), zup_n (by omega), zup_s, zup_n (by omega), g12, zofn_1]; simp [tN, tNs, hS, hns2, hL, hD]
            · rw [zup_n (by omega), zup_n (by omega), zup_n (by omega), zup_n (by omega), g13]
            · rw [hk]; intro w; exact absurd rfl w
            · intro _
              rw [zup_n (by omega), zup_s, zup_s, zup_n (by omega), zup_n (by omega), g13]
              exact ⟨rfl, rfl⟩
            · rw [hk]; intro w; exact absurd w (by decide)
            · intro a b hab
              rw [zup_n (by omega), zup_n (by omega), zup_n (by omega), zup_n (by omega), gf a b (by omega)]
        · skip
          have hns : tS (m 75) n p < n := by
            rcases Nat.lt_or_ge (tS (m 75) n p) n with w | w
            · exact w
            · rw [if_neg (by omega)] at c_59; exact absurd rfl c_59
          rw [if_pos hns] at H c_59
          have gt2 : m2 75 = m 75 := by funext b; exact gf 75 b (by omega)
          generalize hS : tS (m 75) n p = s at *
          have hns2 : ¬ n ≤ s := by omega
          rw [if_pos hns, zin_lt] at c_81
          rw [if_pos hns, zin_dg] at c_137
          have hL : zlt (m 75 s) = false := by simpa using c_81
          have hD : zdg (m 75 s) = true := by simpa using c_137
          obtain ⟨m4, H, l12, lv0, lv1, lv2, lf⟩ := st_dig _ n s s m2 d r h' _ rfl g8 hn2 g12 (by omega) (by omega) g13 (fun _ => g15) (fun e => by omega) (fun e => by omega) (by rw [gt2]; exact hb) H
          rw [gt2, tE_yes (f := zdg) hns hD] at l12 lv0 lv1 lv2
          have hge : s + 1 ≤ tE zdg (m 75) n (s + 1) := tE_ge
          have hle : tE zdg (m 75) n (s + 1) ≤ n := tE_le (by omega)
          have l13 : m4 71 13 = Int32.ofNat s := by rw [lf 71 13 (by omega), g13]
          have l10 : m4 71 10 = 0 := by rw [lf 71 10 (by omega), gf 71 10 (by omega), h0]
          have hsub : m4 71 12 - m4 71 13 = Int32.ofNat (tE zdg (m 75) n (s + 1) - s) := by
            rw [l12, l13, ← zofn_sub (by omega)]
          replace H := i_aln (q := 218) H I_X8_step_217 rfl rfl
          replace H := i_icst (x := 2) (q := 219) H I_X8_step_218 (by decide) rfl
          replace H := i_pf (q := 222) H I_X8_step_219 G_8_72 cn_X8_step LY_71 rfl rfl
          replace H := i_aln (q := 223) H I_X8_step_222 rfl rfl
          replace H := i_gfi (q := 226) H I_X8_step_223 G_8_75 cn_X8_step LY_71 rfl rfl
          replace H := i_aln (q := 227) H I_X8_step_226 rfl rfl
          replace H := i_gfi (q := 230) H I_X8_step_227 G_8_66 cn_X8_step LY_71 rfl rfl
          replace H := i_isub (q := 231) H I_X8_step_230 rfl
          replace H := i_icst (x := 2) (q := 232) H I_X8_step_231 (by decide) rfl
          have W := i_ic_le (t := 269) (q := 235) H I_X8_step_232 (by decide) rfl
          clear H
          rcases W with ⟨c_232, H⟩ | ⟨c_232, H⟩
          · skip
            obtain ⟨hr, hh⟩ := i_rt H I_X8_step_269
            have hq : ¬ 2 < tE zdg (m 75) n (s + 1) - s := by
              rw [zup_n (by omega), zup_n (by omega), hsub] at c_232
              exact fun w => c_232 ((zofn_lt (i := 2) (by decide) (by omega)).mpr w)
            refine ⟨_, hr, hh, ?_, ?_, ?_, ?_, ?_, ?_⟩
            · rw [zup_n (by omega), l12]; simp [tN, tNs, hS, hns2, hL, hD]
            · rw [zup_n (by omega), l13]
            · intro hk
              rw [zup_s, zup_n (by omega), l10]
              exact ⟨by simp [tK, tKs, hS, hns2, hL, hD, hq], rfl⟩
            · intro hk
              exact absurd hk (by simp [tK, tKs, hS, hns2, hL, hD, hq])
            · intro _
              rw [zup_n (by omega)]
              simp only [tV, tVs, hS, hD, if_true]
              split
              · rename_i e
                exact lv1 e
              · rename_i e
                exact lv2 (by omega)
            · intro a b hab
              rw [zup_n (by omega), lf a b (by omega), gf a b (by omega)]
          · skip
            replace H := i_aln (q := 236) H I_X8_step_235 rfl rfl
            replace H := i_icst (x := 1) (q := 237) H I_X8_step_236 (by decide) rfl
            have W := i_cv1 0 (q := 240) H I_X8_step_237 K_8_93 Zm_118 rfl rfl
            clear H
            obtain ⟨r1, h1, Hc, K1, K2⟩ := W
            obtain ⟨e1, e2⟩ := t_X8_fails Hc
            have H := K2 _ e1 e2
            clear e1 e2 Hc K1 K2
            replace H := i_goto (q := 269) H I_X8_step_240 (by decide)
            obtain ⟨hr, hh⟩ := i_rt H I_X8_step_269
            have hq : 2 < tE zdg (m 75) n (s + 1) - s := by
              rw [zup_n (by omega), zup_n (by omega), hsub] at c_232
              exact (zofn_lt (i := 2) (by decide) (by omega)).mp c_232
            rw [zup_n (by omega), show m4 71 10 = 0 from l10, if_pos rfl] at hh
            refine ⟨_, hr, hh, ?_, ?_, ?_, ?_, ?_, ?_⟩
            · rw [zup_n (by omega), zup_n (by omega), zup_n (by omega), l12]; simp [tN, tNs, hS, hns2, hL, hD]
            · rw [zup_n (by omega), zup_n (by omega), zup_n (by omega), l13]
            · intro hk
              exact absurd (by simp [tK, tKs, hS, hns2, hL, hD, hq]) hk
            · intro _
              rw [zup_n (by omega), zup_s, zup_s, zup_n (by omega), l13]
              exact ⟨rfl, rfl⟩
            · intro hk
              exact absurd hk (by simp [tK, tKs, hS, hns2, hL, hD, hq])
            · intro a b hab
              rw [zup_n (by omega), zup_n (by omega), zup_n (by omega), lf a b (by omega), gf a b (by omega)]
      · skip
        have hns : tS (m 75) n p < n := by
          rcases Nat.lt_or_ge (tS (m 75) n p) n with w | w
          · exact w
          · rw [if_neg (by omega)] at c_59; exact absurd rfl c_59
        rw [if_pos hns] at H c_59
        have gt2 : m2 75 = m 75 := by funext b; exact gf 75 b (by omega)
        generalize hS : tS (m 75) n p = s at *
        have hns2 : ¬ n ≤ s := by omega
        rw [if_pos hns, zin_lt] at c_81
        have hL : zlt (m 75 s) = true := by simpa using c_81
        obtain ⟨m4, H, l12, lf⟩ := st_name _ n s m2 d r h' _ rfl g8 hn2 g12 (by omega) (by rw [gt2]; exact hb) H
        rw [gt2, tE_yes (f := zlt) hns hL] at l12
        replace H := i_aln (q := 119) H I_X8_step_118 rfl rfl
        replace H := i_icst (x := 1) (q := 120) H I_X8_step_119 (by decide) rfl
        replace H := i_pf (q := 123) H I_X8_step_120 G_8_72 cn_X8_step LY_71 rfl rfl
        replace H := i_goto (q := 269) H I_X8_step_123 (by decide)
        obtain ⟨hr, hh⟩ := i_rt H I_X8_step_269
        refine ⟨_, hr, hh, ?_, ?_, ?_, ?_, ?_, ?_⟩
        · rw [zup_n (by omega), l12]; simp [tN, tNs, hS, hns2, hL]
        · rw [zup_n (by omega), lf 71 13 (by omega), g13]
        · intro _
          rw [zup_s, zup_n (by omega), lf 71 10 (by omega), gf 71 10 (by omega)]
          exact ⟨by simp [tK, tKs, hS, hns2, hL], h0⟩
        · simp [tK, tKs, hS, hns2, hL]
        · simp [tK, tKs, hS, hns2, hL]
        · intro a b hab
          rw [zup_n (by omega), lf a b (by omega), gf a b (by omega)]
    · skip
      replace H := i_aln (q := 63) H I_X8_step_62 rfl rfl
      replace H := i_icst (x := 0) (q := 64) H I_X8_step_63 (by decide) rfl
      replace H := i_pf (q := 67) H I_X8_step_64 G_8_72 cn_X8_step LY_71 rfl rfl
      replace H := i_goto (q := 269) H I_X8_step_67 (by decide)
      obtain ⟨hr, hh⟩ := i_rt H I_X8_step_269
      have hns : ¬ tS (m 75) n p < n := fun w => by rw [if_pos w] at c_59; exact hb _ w c_59
      have hns2 : n ≤ tS (m 75) n p := by omega
      refine ⟨_, hr, hh, ?_, ?_, ?_, ?_, ?_, ?_⟩
      · rw [zup_n (by omega), g12]; simp [tN, tNs, hns2]
      · rw [zup_n (by omega), g13]
      · intro _
        rw [zup_s, zup_n (by omega), gf 71 10 (by omega)]
        exact ⟨by simp [tK, tKs, hns2], h0⟩
      · simp [tK, tKs, hns2]
      · simp [tK, tKs, hns2]
      · intro a b hab
        rw [zup_n (by omega), gf a b (by omega)]
  · skip
    obtain ⟨hr, hh⟩ := i_rt H I_X8_step_7
    rw [h0] at c_4
    exact absurd c_4 (by decide)
end
section
/-! names -/
theorem It_J0_charAt_5068e : zm_J0_charAt_5068e.2.2.2.2.2 = zt_J0_charAt_5068e := by
  unfold zm_J0_charAt_5068e
  rfl
theorem It_J0_checkIndex_df160 : zm_J0_checkIndex_df160.2.2.2.2.2 = zt_J0_checkIndex_df160 := by
  unfold zm_J0_checkIndex_df160
  rfl
theorem It_J0_coder_7d493 : zm_J0_coder_7d493.2.2.2.2.2 = zt_J0_coder_7d493 := by
  unfold zm_J0_coder_7d493
  rfl
theorem It_J0_isLatin1_aae02 : zm_J0_isLatin1_aae02.2.2.2.2.2 = zt_J0_isLatin1_aae02 := by
  unfold zm_J0_isLatin1_aae02
  rfl
theorem It_J0_length_8abf5 : zm_J0_length_8abf5.2.2.2.2.2 = zt_J0_length_8abf5 := by
  unfold zm_J0_length_8abf5
  rfl
theorem It_J1_charAt_3b067 : zm_J1_charAt_3b067.2.2.2.2.2 = zt_J1_charAt_3b067 := by
  unfold zm_J1_charAt_3b067
  rfl
theorem It_J3_checkIndex_8e157 : zm_J3_checkIndex_8e157.2.2.2.2.2 = zt_J3_checkIndex_8e157 := by
  unfold zm_J3_checkIndex_8e157
  rfl
theorem It_X2_spells : zm_X2_spells.2.2.2.2.2 = zt_X2_spells := by
  unfold zm_X2_spells
  rfl
theorem It_X2_word : zm_X2_word.2.2.2.2.2 = zt_X2_word := by
  unfold zm_X2_word
  rfl
theorem It_X2_wordText : zm_X2_wordText.2.2.2.2.2 = zt_X2_wordText := by
  unfold zm_X2_wordText
  rfl
theorem It_X8_nameHere : zm_X8_nameHere.2.2.2.2.2 = zt_X8_nameHere := by
  unfold zm_X8_nameHere
  rfl
theorem I_J0_charAt_5068e_0 : zin zm_J0_charAt_5068e.2.2.2.2.2 0 = some (.aload_n 0, 1) := by rw [It_J0_charAt_5068e]; rfl
theorem I_J0_charAt_5068e_1 : zin zm_J0_charAt_5068e.2.2.2.2.2 1 = some (.invokevirtual 492, 3) := by rw [It_J0_charAt_5068e]; rfl
theorem I_J0_charAt_5068e_4 : zin zm_J0_charAt_5068e.2.2.2.2.2 4 = some (.ifCond .eq 12, 3) := by rw [It_J0_charAt_5068e]; rfl
theorem I_J0_charAt_5068e_7 : zin zm_J0_charAt_5068e.2.2.2.2.2 7 = some (.aload_n 0, 1) := by rw [It_J0_charAt_5068e]; rfl
theorem I_J0_charAt_5068e_8 : zin zm_J0_charAt_5068e.2.2.2.2.2 8 = some (.getfield 9, 3) := by rw [It_J0_charAt_5068e]; rfl
theorem I_J0_charAt_5068e_11 : zin zm_J0_charAt_5068e.2.2.2.2.2 11 = some (.iload_n 1, 1) := by rw [It_J0_charAt_5068e]; rfl
theorem I_J0_charAt_5068e_12 : zin zm_J0_charAt_5068e.2.2.2.2.2 12 = some (.invokestatic 495, 3) := by rw [It_J0_charAt_5068e]; rfl
theorem I_J0_charAt_5068e_15 : zin zm_J0_charAt_5068e.2.2.2.2.2 15 = some (.ireturn, 1) := by rw [It_J0_charAt_5068e]; rfl
theorem I_J0_checkIndex_df160_0 : zin zm_J0_checkIndex_df160.2.2.2.2.2 0 = some (.iload_n 0, 1) := by rw [It_J0_checkIndex_df160]; rfl
theorem I_J0_checkIndex_df160_1 : zin zm_J0_checkIndex_df160.2.2.2.2.2 1 = some (.iload_n 1, 1) := by rw [It_J0_checkIndex_df160]; rfl
theorem I_J0_checkIndex_df160_2 : zin zm_J0_checkIndex_df160.2.2.2.2.2 2 = some (.getstatic 1053, 3) := by rw [It_J0_checkIndex_df160]; rfl
theorem I_J0_checkIndex_df160_5 : zin zm_J0_checkIndex_df160.2.2.2.2.2 5 = some (.invokestatic 1059, 3) := by rw [It_J0_checkIndex_df160]; rfl
theorem I_J0_checkIndex_df160_8 : zin zm_J0_checkIndex_df160.2.2.2.2.2 8 = some (.pop, 1) := by rw [It_J0_checkIndex_df160]; rfl
theorem I_J0_checkIndex_df160_9 : zin zm_J0_checkIndex_df160.2.2.2.2.2 9 = some (.return_, 1) := by rw [It_J0_checkIndex_df160]; rfl
theorem I_J0_coder_7d493_0 : zin zm_J0_coder_7d493.2.2.2.2.2 0 = some (.getstatic 38, 3) := by rw [It_J0_coder_7d493]; rfl
theorem I_J0_coder_7d493_3 : zin zm_J0_coder_7d493.2.2.2.2.2 3 = some (.ifCond .eq 10, 3) := by rw [It_J0_coder_7d493]; rfl
theorem I_J0_coder_7d493_6 : zin zm_J0_coder_7d493.2.2.2.2.2 6 = some (.aload_n 0, 1) := by rw [It_J0_coder_7d493]; rfl
theorem I_J0_coder_7d493_7 : zin zm_J0_coder_7d493.2.2.2.2.2 7 = some (.getfield 15, 3) := by rw [It_J0_coder_7d493]; rfl
theorem I_J0_coder_7d493_10 : zin zm_J0_coder_7d493.2.2.2.2.2 10 = some (.goto 4, 3) := by rw [It_J0_coder_7d493]; rfl
theorem I_J0_coder_7d493_13 : zin zm_J0_coder_7d493.2.2.2.2.2 13 = some (.iconst 1, 1) := by rw [It_J0_coder_7d493]; rfl
theorem I_J0_coder_7d493_14 : zin zm_J0_coder_7d493.2.2.2.2.2 14 = some (.ireturn, 1) := by rw [It_J0_coder_7d493]; rfl
theorem I_J0_isLatin1_aae02_0 : zin zm_J0_isLatin1_aae02.2.2.2.2.2 0 = some (.getstatic 38, 3) := by rw [It_J0_isLatin1_aae02]; rfl
theorem I_J0_isLatin1_aae02_3 : zin zm_J0_isLatin1_aae02.2.2.2.2.2 3 = some (.ifCond .eq 14, 3) := by rw [It_J0_isLatin1_aae02]; rfl
theorem I_J0_isLatin1_aae02_6 : zin zm_J0_isLatin1_aae02.2.2.2.2.2 6 = some (.aload_n 0, 1) := by rw [It_J0_isLatin1_aae02]; rfl
theorem I_J0_isLatin1_aae02_7 : zin zm_J0_isLatin1_aae02.2.2.2.2.2 7 = some (.getfield 15, 3) := by rw [It_J0_isLatin1_aae02]; rfl
theorem I_J0_isLatin1_aae02_10 : zin zm_J0_isLatin1_aae02.2.2.2.2.2 10 = some (.ifCond .ne 7, 3) := by rw [It_J0_isLatin1_aae02]; rfl
theorem I_J0_isLatin1_aae02_13 : zin zm_J0_isLatin1_aae02.2.2.2.2.2 13 = some (.iconst 1, 1) := by rw [It_J0_isLatin1_aae02]; rfl
theorem I_J0_isLatin1_aae02_14 : zin zm_J0_isLatin1_aae02.2.2.2.2.2 14 = some (.goto 4, 3) := by rw [It_J0_isLatin1_aae02]; rfl
theorem I_J0_isLatin1_aae02_17 : zin zm_J0_isLatin1_aae02.2.2.2.2.2 17 = some (.iconst 0, 1) := by rw [It_J0_isLatin1_aae02]; rfl
theorem I_J0_isLatin1_aae02_18 : zin zm_J0_isLatin1_aae02.2.2.2.2.2 18 = some (.ireturn, 1) := by rw [It_J0_isLatin1_aae02]; rfl
theorem I_J0_length_8abf5_0 : zin zm_J0_length_8abf5.2.2.2.2.2 0 = some (.aload_n 0, 1) := by rw [It_J0_length_8abf5]; rfl
theorem I_J0_length_8abf5_1 : zin zm_J0_length_8abf5.2.2.2.2.2 1 = some (.getfield 9, 3) := by rw [It_J0_length_8abf5]; rfl
theorem I_J0_length_8abf5_4 : zin zm_J0_length_8abf5.2.2.2.2.2 4 = some (.arraylength, 1) := by rw [It_J0_length_8abf5]; rfl
theorem I_J0_length_8abf5_5 : zin zm_J0_length_8abf5.2.2.2.2.2 5 = some (.aload_n 0, 1) := by rw [It_J0_length_8abf5]; rfl
theorem I_J0_length_8abf5_6 : zin zm_J0_length_8abf5.2.2.2.2.2 6 = some (.invokevirtual 335, 3) := by rw [It_J0_length_8abf5]; rfl
theorem I_J0_length_8abf5_9 : zin zm_J0_length_8abf5.2.2.2.2.2 9 = some (.ishr, 1) := by rw [It_J0_length_8abf5]; rfl
theorem I_J0_length_8abf5_10 : zin zm_J0_length_8abf5.2.2.2.2.2 10 = some (.ireturn, 1) := by rw [It_J0_length_8abf5]; rfl
theorem I_J1_charAt_3b067_0 : zin zm_J1_charAt_3b067.2.2.2.2.2 0 = some (.iload_n 1, 1) := by rw [It_J1_charAt_3b067]; rfl
theorem I_J1_charAt_3b067_1 : zin zm_J1_charAt_3b067.2.2.2.2.2 1 = some (.aload_n 0, 1) := by rw [It_J1_charAt_3b067]; rfl
theorem I_J1_charAt_3b067_2 : zin zm_J1_charAt_3b067.2.2.2.2.2 2 = some (.arraylength, 1) := by rw [It_J1_charAt_3b067]; rfl
theorem I_J1_charAt_3b067_3 : zin zm_J1_charAt_3b067.2.2.2.2.2 3 = some (.invokestatic 9, 3) := by rw [It_J1_charAt_3b067]; rfl
theorem I_J1_charAt_3b067_6 : zin zm_J1_charAt_3b067.2.2.2.2.2 6 = some (.aload_n 0, 1) := by rw [It_J1_charAt_3b067]; rfl
theorem I_J1_charAt_3b067_7 : zin zm_J1_charAt_3b067.2.2.2.2.2 7 = some (.iload_n 1, 1) := by rw [It_J1_charAt_3b067]; rfl
theorem I_J1_charAt_3b067_8 : zin zm_J1_charAt_3b067.2.2.2.2.2 8 = some (.baload, 1) := by rw [It_J1_charAt_3b067]; rfl
theorem I_J1_charAt_3b067_9 : zin zm_J1_charAt_3b067.2.2.2.2.2 9 = some (.sipush 255, 3) := by rw [It_J1_charAt_3b067]; rfl
theorem I_J1_charAt_3b067_12 : zin zm_J1_charAt_3b067.2.2.2.2.2 12 = some (.iand, 1) := by rw [It_J1_charAt_3b067]; rfl
theorem I_J1_charAt_3b067_13 : zin zm_J1_charAt_3b067.2.2.2.2.2 13 = some (.i2c, 1) := by rw [It_J1_charAt_3b067]; rfl
theorem I_J1_charAt_3b067_14 : zin zm_J1_charAt_3b067.2.2.2.2.2 14 = some (.ireturn, 1) := by rw [It_J1_charAt_3b067]; rfl
theorem I_J3_checkIndex_8e157_0 : zin zm_J3_checkIndex_8e157.2.2.2.2.2 0 = some (.iload_n 0, 1) := by rw [It_J3_checkIndex_8e157]; rfl
theorem I_J3_checkIndex_8e157_1 : zin zm_J3_checkIndex_8e157.2.2.2.2.2 1 = some (.ifCond .lt 8, 3) := by rw [It_J3_checkIndex_8e157]; rfl
theorem I_J3_checkIndex_8e157_4 : zin zm_J3_checkIndex_8e157.2.2.2.2.2 4 = some (.iload_n 0, 1) := by rw [It_J3_checkIndex_8e157]; rfl
theorem I_J3_checkIndex_8e157_5 : zin zm_J3_checkIndex_8e157.2.2.2.2.2 5 = some (.iload_n 1, 1) := by rw [It_J3_checkIndex_8e157]; rfl
theorem I_J3_checkIndex_8e157_6 : zin zm_J3_checkIndex_8e157.2.2.2.2.2 6 = some (.if_icmp .lt 10, 3) := by rw [It_J3_checkIndex_8e157]; rfl
theorem I_J3_checkIndex_8e157_9 : zin zm_J3_checkIndex_8e157.2.2.2.2.2 9 = some (.aload_n 2, 1) := by rw [It_J3_checkIndex_8e157]; rfl
theorem I_J3_checkIndex_8e157_10 : zin zm_J3_checkIndex_8e157.2.2.2.2.2 10 = some (.iload_n 0, 1) := by rw [It_J3_checkIndex_8e157]; rfl
theorem I_J3_checkIndex_8e157_11 : zin zm_J3_checkIndex_8e157.2.2.2.2.2 11 = some (.iload_n 1, 1) := by rw [It_J3_checkIndex_8e157]; rfl
theorem I_J3_checkIndex_8e157_12 : zin zm_J3_checkIndex_8e157.2.2.2.2.2 12 = some (.invokestatic 95, 3) := by rw [It_J3_checkIndex_8e157]; rfl
theorem I_J3_checkIndex_8e157_16 : zin zm_J3_checkIndex_8e157.2.2.2.2.2 16 = some (.iload_n 0, 1) := by rw [It_J3_checkIndex_8e157]; rfl
theorem I_J3_checkIndex_8e157_17 : zin zm_J3_checkIndex_8e157.2.2.2.2.2 17 = some (.ireturn, 1) := by rw [It_J3_checkIndex_8e157]; rfl
theorem I_X2_spells_0 : zin zm_X2_spells.2.2.2.2.2 0 = some (.aload_n 0, 1) := by rw [It_X2_spells]; rfl
theorem I_X2_spells_1 : zin zm_X2_spells.2.2.2.2.2 1 = some (.getfield 25, 3) := by rw [It_X2_spells]; rfl
theorem I_X2_spells_4 : zin zm_X2_spells.2.2.2.2.2 4 = some (.aload_n 0, 1) := by rw [It_X2_spells]; rfl
theorem I_X2_spells_5 : zin zm_X2_spells.2.2.2.2.2 5 = some (.getfield 102, 3) := by rw [It_X2_spells]; rfl
theorem I_X2_spells_8 : zin zm_X2_spells.2.2.2.2.2 8 = some (.isub, 1) := by rw [It_X2_spells]; rfl
theorem I_X2_spells_9 : zin zm_X2_spells.2.2.2.2.2 9 = some (.aload_n 1, 1) := by rw [It_X2_spells]; rfl
theorem I_X2_spells_10 : zin zm_X2_spells.2.2.2.2.2 10 = some (.invokevirtual 135, 3) := by rw [It_X2_spells]; rfl
theorem I_X2_spells_13 : zin zm_X2_spells.2.2.2.2.2 13 = some (.if_icmp .eq 5, 3) := by rw [It_X2_spells]; rfl
theorem I_X2_spells_16 : zin zm_X2_spells.2.2.2.2.2 16 = some (.iconst 0, 1) := by rw [It_X2_spells]; rfl
theorem I_X2_spells_17 : zin zm_X2_spells.2.2.2.2.2 17 = some (.ireturn, 1) := by rw [It_X2_spells]; rfl
theorem I_X2_spells_18 : zin zm_X2_spells.2.2.2.2.2 18 = some (.iconst 0, 1) := by rw [It_X2_spells]; rfl
theorem I_X2_spells_19 : zin zm_X2_spells.2.2.2.2.2 19 = some (.istore_n 2, 1) := by rw [It_X2_spells]; rfl
theorem I_X2_spells_20 : zin zm_X2_spells.2.2.2.2.2 20 = some (.iload_n 2, 1) := by rw [It_X2_spells]; rfl
theorem I_X2_spells_21 : zin zm_X2_spells.2.2.2.2.2 21 = some (.aload_n 1, 1) := by rw [It_X2_spells]; rfl
theorem I_X2_spells_22 : zin zm_X2_spells.2.2.2.2.2 22 = some (.invokevirtual 135, 3) := by rw [It_X2_spells]; rfl
theorem I_X2_spells_25 : zin zm_X2_spells.2.2.2.2.2 25 = some (.if_icmp .ge 30, 3) := by rw [It_X2_spells]; rfl
theorem I_X2_spells_28 : zin zm_X2_spells.2.2.2.2.2 28 = some (.aload_n 0, 1) := by rw [It_X2_spells]; rfl
theorem I_X2_spells_29 : zin zm_X2_spells.2.2.2.2.2 29 = some (.getfield 9, 3) := by rw [It_X2_spells]; rfl
theorem I_X2_spells_32 : zin zm_X2_spells.2.2.2.2.2 32 = some (.aload_n 0, 1) := by rw [It_X2_spells]; rfl
theorem I_X2_spells_33 : zin zm_X2_spells.2.2.2.2.2 33 = some (.getfield 102, 3) := by rw [It_X2_spells]; rfl
theorem I_X2_spells_36 : zin zm_X2_spells.2.2.2.2.2 36 = some (.iload_n 2, 1) := by rw [It_X2_spells]; rfl
theorem I_X2_spells_37 : zin zm_X2_spells.2.2.2.2.2 37 = some (.iadd, 1) := by rw [It_X2_spells]; rfl
theorem I_X2_spells_38 : zin zm_X2_spells.2.2.2.2.2 38 = some (.baload, 1) := by rw [It_X2_spells]; rfl
theorem I_X2_spells_39 : zin zm_X2_spells.2.2.2.2.2 39 = some (.aload_n 1, 1) := by rw [It_X2_spells]; rfl
theorem I_X2_spells_40 : zin zm_X2_spells.2.2.2.2.2 40 = some (.iload_n 2, 1) := by rw [It_X2_spells]; rfl
theorem I_X2_spells_41 : zin zm_X2_spells.2.2.2.2.2 41 = some (.invokevirtual 139, 3) := by rw [It_X2_spells]; rfl
theorem I_X2_spells_44 : zin zm_X2_spells.2.2.2.2.2 44 = some (.if_icmp .eq 5, 3) := by rw [It_X2_spells]; rfl
theorem I_X2_spells_47 : zin zm_X2_spells.2.2.2.2.2 47 = some (.iconst 0, 1) := by rw [It_X2_spells]; rfl
theorem I_X2_spells_48 : zin zm_X2_spells.2.2.2.2.2 48 = some (.ireturn, 1) := by rw [It_X2_spells]; rfl
theorem I_X2_spells_49 : zin zm_X2_spells.2.2.2.2.2 49 = some (.iinc 2 1, 3) := by rw [It_X2_spells]; rfl
theorem I_X2_spells_52 : zin zm_X2_spells.2.2.2.2.2 52 = some (.goto (-32), 3) := by rw [It_X2_spells]; rfl
theorem I_X2_spells_55 : zin zm_X2_spells.2.2.2.2.2 55 = some (.iconst 1, 1) := by rw [It_X2_spells]; rfl
theorem I_X2_spells_56 : zin zm_X2_spells.2.2.2.2.2 56 = some (.ireturn, 1) := by rw [It_X2_spells]; rfl
theorem I_X2_word_0 : zin zm_X2_word.2.2.2.2.2 0 = some (.iconst 0, 1) := by rw [It_X2_word]; rfl
theorem I_X2_word_1 : zin zm_X2_word.2.2.2.2.2 1 = some (.istore_n 1, 1) := by rw [It_X2_word]; rfl
theorem I_X2_word_2 : zin zm_X2_word.2.2.2.2.2 2 = some (.iload_n 1, 1) := by rw [It_X2_word]; rfl
theorem I_X2_word_3 : zin zm_X2_word.2.2.2.2.2 3 = some (.bipush 7, 2) := by rw [It_X2_word]; rfl
theorem I_X2_word_5 : zin zm_X2_word.2.2.2.2.2 5 = some (.if_icmp .ge 22, 3) := by rw [It_X2_word]; rfl
theorem I_X2_word_8 : zin zm_X2_word.2.2.2.2.2 8 = some (.aload_n 0, 1) := by rw [It_X2_word]; rfl
theorem I_X2_word_9 : zin zm_X2_word.2.2.2.2.2 9 = some (.iload_n 1, 1) := by rw [It_X2_word]; rfl
theorem I_X2_word_10 : zin zm_X2_word.2.2.2.2.2 10 = some (.invokestatic 127, 3) := by rw [It_X2_word]; rfl
theorem I_X2_word_13 : zin zm_X2_word.2.2.2.2.2 13 = some (.invokevirtual 131, 3) := by rw [It_X2_word]; rfl
theorem I_X2_word_16 : zin zm_X2_word.2.2.2.2.2 16 = some (.ifCond .eq 5, 3) := by rw [It_X2_word]; rfl
theorem I_X2_word_19 : zin zm_X2_word.2.2.2.2.2 19 = some (.iload_n 1, 1) := by rw [It_X2_word]; rfl
theorem I_X2_word_20 : zin zm_X2_word.2.2.2.2.2 20 = some (.ireturn, 1) := by rw [It_X2_word]; rfl
theorem I_X2_word_21 : zin zm_X2_word.2.2.2.2.2 21 = some (.iinc 1 1, 3) := by rw [It_X2_word]; rfl
theorem I_X2_word_24 : zin zm_X2_word.2.2.2.2.2 24 = some (.goto (-22), 3) := by rw [It_X2_word]; rfl
theorem I_X2_word_27 : zin zm_X2_word.2.2.2.2.2 27 = some (.bipush 7, 2) := by rw [It_X2_word]; rfl
theorem I_X2_word_29 : zin zm_X2_word.2.2.2.2.2 29 = some (.ireturn, 1) := by rw [It_X2_word]; rfl
theorem I_X2_wordText_0 : zin zm_X2_wordText.2.2.2.2.2 0 = some (.iload_n 0, 1) := by rw [It_X2_wordText]; rfl
theorem I_X2_wordText_1 : zin zm_X2_wordText.2.2.2.2.2 1 = some (.tableswitch 57 0 5 #[39, 42, 45, 48, 51, 54], 39) := by rw [It_X2_wordText]; rfl
theorem I_X2_wordText_40 : zin zm_X2_wordText.2.2.2.2.2 40 = some (.ldc 143, 2) := by rw [It_X2_wordText]; rfl
theorem I_X2_wordText_42 : zin zm_X2_wordText.2.2.2.2.2 42 = some (.areturn, 1) := by rw [It_X2_wordText]; rfl
theorem I_X2_wordText_43 : zin zm_X2_wordText.2.2.2.2.2 43 = some (.ldc 145, 2) := by rw [It_X2_wordText]; rfl
theorem I_X2_wordText_45 : zin zm_X2_wordText.2.2.2.2.2 45 = some (.areturn, 1) := by rw [It_X2_wordText]; rfl
theorem I_X2_wordText_46 : zin zm_X2_wordText.2.2.2.2.2 46 = some (.ldc 147, 2) := by rw [It_X2_wordText]; rfl
theorem I_X2_wordText_48 : zin zm_X2_wordText.2.2.2.2.2 48 = some (.areturn, 1) := by rw [It_X2_wordText]; rfl
theorem I_X2_wordText_49 : zin zm_X2_wordText.2.2.2.2.2 49 = some (.ldc 149, 2) := by rw [It_X2_wordText]; rfl
theorem I_X2_wordText_51 : zin zm_X2_wordText.2.2.2.2.2 51 = some (.areturn, 1) := by rw [It_X2_wordText]; rfl
theorem I_X2_wordText_52 : zin zm_X2_wordText.2.2.2.2.2 52 = some (.ldc 151, 2) := by rw [It_X2_wordText]; rfl
theorem I_X2_wordText_54 : zin zm_X2_wordText.2.2.2.2.2 54 = some (.areturn, 1) := by rw [It_X2_wordText]; rfl
theorem I_X2_wordText_55 : zin zm_X2_wordText.2.2.2.2.2 55 = some (.ldc 153, 2) := by rw [It_X2_wordText]; rfl
theorem I_X2_wordText_57 : zin zm_X2_wordText.2.2.2.2.2 57 = some (.areturn, 1) := by rw [It_X2_wordText]; rfl
theorem I_X2_wordText_58 : zin zm_X2_wordText.2.2.2.2.2 58 = some (.ldc 154, 2) := by rw [It_X2_wordText]; rfl
theorem I_X2_wordText_60 : zin zm_X2_wordText.2.2.2.2.2 60 = some (.areturn, 1) := by rw [It_X2_wordText]; rfl
theorem I_X8_nameHere_0 : zin zm_X8_nameHere.2.2.2.2.2 0 = some (.iconst 0, 1) := by rw [It_X8_nameHere]; rfl
theorem I_X8_nameHere_1 : zin zm_X8_nameHere.2.2.2.2.2 1 = some (.istore_n 1, 1) := by rw [It_X8_nameHere]; rfl
theorem I_X8_nameHere_2 : zin zm_X8_nameHere.2.2.2.2.2 2 = some (.iload_n 1, 1) := by rw [It_X8_nameHere]; rfl
theorem I_X8_nameHere_3 : zin zm_X8_nameHere.2.2.2.2.2 3 = some (.bipush 7, 2) := by rw [It_X8_nameHere]; rfl
theorem I_X8_nameHere_5 : zin zm_X8_nameHere.2.2.2.2.2 5 = some (.if_icmp .ge 113, 3) := by rw [It_X8_nameHere]; rfl
theorem I_X8_nameHere_8 : zin zm_X8_nameHere.2.2.2.2.2 8 = some (.aload_n 0, 1) := by rw [It_X8_nameHere]; rfl
theorem I_X8_nameHere_9 : zin zm_X8_nameHere.2.2.2.2.2 9 = some (.getfield 72, 3) := by rw [It_X8_nameHere]; rfl
theorem I_X8_nameHere_12 : zin zm_X8_nameHere.2.2.2.2.2 12 = some (.iconst 1, 1) := by rw [It_X8_nameHere]; rfl
theorem I_X8_nameHere_13 : zin zm_X8_nameHere.2.2.2.2.2 13 = some (.if_icmp .ne 105, 3) := by rw [It_X8_nameHere]; rfl
theorem I_X8_nameHere_16 : zin zm_X8_nameHere.2.2.2.2.2 16 = some (.aload_n 0, 1) := by rw [It_X8_nameHere]; rfl
theorem I_X8_nameHere_17 : zin zm_X8_nameHere.2.2.2.2.2 17 = some (.getfield 75, 3) := by rw [It_X8_nameHere]; rfl
theorem I_X8_nameHere_20 : zin zm_X8_nameHere.2.2.2.2.2 20 = some (.aload_n 0, 1) := by rw [It_X8_nameHere]; rfl
theorem I_X8_nameHere_21 : zin zm_X8_nameHere.2.2.2.2.2 21 = some (.getfield 66, 3) := by rw [It_X8_nameHere]; rfl
theorem I_X8_nameHere_24 : zin zm_X8_nameHere.2.2.2.2.2 24 = some (.isub, 1) := by rw [It_X8_nameHere]; rfl
theorem I_X8_nameHere_25 : zin zm_X8_nameHere.2.2.2.2.2 25 = some (.aload_n 0, 1) := by rw [It_X8_nameHere]; rfl
theorem I_X8_nameHere_26 : zin zm_X8_nameHere.2.2.2.2.2 26 = some (.getfield 22, 3) := by rw [It_X8_nameHere]; rfl
theorem I_X8_nameHere_29 : zin zm_X8_nameHere.2.2.2.2.2 29 = some (.iload_n 1, 1) := by rw [It_X8_nameHere]; rfl
theorem I_X8_nameHere_30 : zin zm_X8_nameHere.2.2.2.2.2 30 = some (.iconst 1, 1) := by rw [It_X8_nameHere]; rfl
theorem I_X8_nameHere_31 : zin zm_X8_nameHere.2.2.2.2.2 31 = some (.iadd, 1) := by rw [It_X8_nameHere]; rfl
theorem I_X8_nameHere_32 : zin zm_X8_nameHere.2.2.2.2.2 32 = some (.iaload, 1) := by rw [It_X8_nameHere]; rfl
theorem I_X8_nameHere_33 : zin zm_X8_nameHere.2.2.2.2.2 33 = some (.aload_n 0, 1) := by rw [It_X8_nameHere]; rfl
theorem I_X8_nameHere_34 : zin zm_X8_nameHere.2.2.2.2.2 34 = some (.getfield 22, 3) := by rw [It_X8_nameHere]; rfl
theorem I_X8_nameHere_37 : zin zm_X8_nameHere.2.2.2.2.2 37 = some (.iload_n 1, 1) := by rw [It_X8_nameHere]; rfl
theorem I_X8_nameHere_38 : zin zm_X8_nameHere.2.2.2.2.2 38 = some (.iaload, 1) := by rw [It_X8_nameHere]; rfl
theorem I_X8_nameHere_39 : zin zm_X8_nameHere.2.2.2.2.2 39 = some (.isub, 1) := by rw [It_X8_nameHere]; rfl
theorem I_X8_nameHere_40 : zin zm_X8_nameHere.2.2.2.2.2 40 = some (.if_icmp .ne 7, 3) := by rw [It_X8_nameHere]; rfl
theorem I_X8_nameHere_43 : zin zm_X8_nameHere.2.2.2.2.2 43 = some (.iconst 1, 1) := by rw [It_X8_nameHere]; rfl
theorem I_X8_nameHere_44 : zin zm_X8_nameHere.2.2.2.2.2 44 = some (.goto 4, 3) := by rw [It_X8_nameHere]; rfl
theorem I_X8_nameHere_47 : zin zm_X8_nameHere.2.2.2.2.2 47 = some (.iconst 0, 1) := by rw [It_X8_nameHere]; rfl
theorem I_X8_nameHere_48 : zin zm_X8_nameHere.2.2.2.2.2 48 = some (.istore_n 2, 1) := by rw [It_X8_nameHere]; rfl
theorem I_X8_nameHere_49 : zin zm_X8_nameHere.2.2.2.2.2 49 = some (.iconst 0, 1) := by rw [It_X8_nameHere]; rfl
theorem I_X8_nameHere_50 : zin zm_X8_nameHere.2.2.2.2.2 50 = some (.istore_n 3, 1) := by rw [It_X8_nameHere]; rfl
theorem I_X8_nameHere_51 : zin zm_X8_nameHere.2.2.2.2.2 51 = some (.iload_n 2, 1) := by rw [It_X8_nameHere]; rfl
theorem I_X8_nameHere_52 : zin zm_X8_nameHere.2.2.2.2.2 52 = some (.ifCond .eq 54, 3) := by rw [It_X8_nameHere]; rfl
theorem I_X8_nameHere_55 : zin zm_X8_nameHere.2.2.2.2.2 55 = some (.iload_n 3, 1) := by rw [It_X8_nameHere]; rfl
theorem I_X8_nameHere_56 : zin zm_X8_nameHere.2.2.2.2.2 56 = some (.aload_n 0, 1) := by rw [It_X8_nameHere]; rfl
theorem I_X8_nameHere_57 : zin zm_X8_nameHere.2.2.2.2.2 57 = some (.getfield 75, 3) := by rw [It_X8_nameHere]; rfl
theorem I_X8_nameHere_60 : zin zm_X8_nameHere.2.2.2.2.2 60 = some (.aload_n 0, 1) := by rw [It_X8_nameHere]; rfl
theorem I_X8_nameHere_61 : zin zm_X8_nameHere.2.2.2.2.2 61 = some (.getfield 66, 3) := by rw [It_X8_nameHere]; rfl
theorem I_X8_nameHere_64 : zin zm_X8_nameHere.2.2.2.2.2 64 = some (.isub, 1) := by rw [It_X8_nameHere]; rfl
theorem I_X8_nameHere_65 : zin zm_X8_nameHere.2.2.2.2.2 65 = some (.if_icmp .ge 41, 3) := by rw [It_X8_nameHere]; rfl
theorem I_X8_nameHere_68 : zin zm_X8_nameHere.2.2.2.2.2 68 = some (.aload_n 0, 1) := by rw [It_X8_nameHere]; rfl
theorem I_X8_nameHere_69 : zin zm_X8_nameHere.2.2.2.2.2 69 = some (.aload_n 0, 1) := by rw [It_X8_nameHere]; rfl
theorem I_X8_nameHere_70 : zin zm_X8_nameHere.2.2.2.2.2 70 = some (.getfield 66, 3) := by rw [It_X8_nameHere]; rfl
theorem I_X8_nameHere_73 : zin zm_X8_nameHere.2.2.2.2.2 73 = some (.iload_n 3, 1) := by rw [It_X8_nameHere]; rfl
theorem I_X8_nameHere_74 : zin zm_X8_nameHere.2.2.2.2.2 74 = some (.iadd, 1) := by rw [It_X8_nameHere]; rfl
theorem I_X8_nameHere_75 : zin zm_X8_nameHere.2.2.2.2.2 75 = some (.invokevirtual 78, 3) := by rw [It_X8_nameHere]; rfl
theorem I_X8_nameHere_78 : zin zm_X8_nameHere.2.2.2.2.2 78 = some (.aload_n 0, 1) := by rw [It_X8_nameHere]; rfl
theorem I_X8_nameHere_79 : zin zm_X8_nameHere.2.2.2.2.2 79 = some (.getfield 25, 3) := by rw [It_X8_nameHere]; rfl
theorem I_X8_nameHere_82 : zin zm_X8_nameHere.2.2.2.2.2 82 = some (.aload_n 0, 1) := by rw [It_X8_nameHere]; rfl
theorem I_X8_nameHere_83 : zin zm_X8_nameHere.2.2.2.2.2 83 = some (.getfield 22, 3) := by rw [It_X8_nameHere]; rfl
theorem I_X8_nameHere_86 : zin zm_X8_nameHere.2.2.2.2.2 86 = some (.iload_n 1, 1) := by rw [It_X8_nameHere]; rfl
theorem I_X8_nameHere_87 : zin zm_X8_nameHere.2.2.2.2.2 87 = some (.iaload, 1) := by rw [It_X8_nameHere]; rfl
theorem I_X8_nameHere_88 : zin zm_X8_nameHere.2.2.2.2.2 88 = some (.iload_n 3, 1) := by rw [It_X8_nameHere]; rfl
theorem I_X8_nameHere_89 : zin zm_X8_nameHere.2.2.2.2.2 89 = some (.iadd, 1) := by rw [It_X8_nameHere]; rfl
theorem I_X8_nameHere_90 : zin zm_X8_nameHere.2.2.2.2.2 90 = some (.iaload, 1) := by rw [It_X8_nameHere]; rfl
theorem I_X8_nameHere_91 : zin zm_X8_nameHere.2.2.2.2.2 91 = some (.if_icmp .ne 7, 3) := by rw [It_X8_nameHere]; rfl
theorem I_X8_nameHere_94 : zin zm_X8_nameHere.2.2.2.2.2 94 = some (.iconst 1, 1) := by rw [It_X8_nameHere]; rfl
theorem I_X8_nameHere_95 : zin zm_X8_nameHere.2.2.2.2.2 95 = some (.goto 4, 3) := by rw [It_X8_nameHere]; rfl
theorem I_X8_nameHere_98 : zin zm_X8_nameHere.2.2.2.2.2 98 = some (.iconst 0, 1) := by rw [It_X8_nameHere]; rfl
theorem I_X8_nameHere_99 : zin zm_X8_nameHere.2.2.2.2.2 99 = some (.istore_n 2, 1) := by rw [It_X8_nameHere]; rfl
theorem I_X8_nameHere_100 : zin zm_X8_nameHere.2.2.2.2.2 100 = some (.iinc 3 1, 3) := by rw [It_X8_nameHere]; rfl
theorem I_X8_nameHere_103 : zin zm_X8_nameHere.2.2.2.2.2 103 = some (.goto (-52), 3) := by rw [It_X8_nameHere]; rfl
theorem I_X8_nameHere_106 : zin zm_X8_nameHere.2.2.2.2.2 106 = some (.iload_n 2, 1) := by rw [It_X8_nameHere]; rfl
theorem I_X8_nameHere_107 : zin zm_X8_nameHere.2.2.2.2.2 107 = some (.ifCond .eq 5, 3) := by rw [It_X8_nameHere]; rfl
theorem I_X8_nameHere_110 : zin zm_X8_nameHere.2.2.2.2.2 110 = some (.iload_n 1, 1) := by rw [It_X8_nameHere]; rfl
theorem I_X8_nameHere_111 : zin zm_X8_nameHere.2.2.2.2.2 111 = some (.ireturn, 1) := by rw [It_X8_nameHere]; rfl
theorem I_X8_nameHere_112 : zin zm_X8_nameHere.2.2.2.2.2 112 = some (.iinc 1 1, 3) := by rw [It_X8_nameHere]; rfl
theorem I_X8_nameHere_115 : zin zm_X8_nameHere.2.2.2.2.2 115 = some (.goto (-113), 3) := by rw [It_X8_nameHere]; rfl
theorem I_X8_nameHere_118 : zin zm_X8_nameHere.2.2.2.2.2 118 = some (.bipush (-4), 2) := by rw [It_X8_nameHere]; rfl
theorem I_X8_nameHere_120 : zin zm_X8_nameHere.2.2.2.2.2 120 = some (.ireturn, 1) := by rw [It_X8_nameHere]; rfl
theorem G_8_22 : zlk zfls 8 22 = some (8, 16, 857) := rfl
theorem G_8_25 : zlk zfls 8 25 = some (8, 17, 858) := rfl
theorem K_2_127 : zlk zmls 2 127 = some (1, 42, 1, 381) := rfl
theorem K_2_131 : zlk zmls 2 131 = some (0, 41, 1, 391) := rfl
theorem K_2_135 : zlk zmls 2 135 = some (0, 183, 0, 395) := rfl
theorem K_2_139 : zlk zmls 2 139 = some (0, 184, 1, 405) := rfl
theorem K_12_335 : zlk zmls 12 335 = some (0, 185, 0, 399) := rfl
theorem K_12_492 : zlk zmls 12 492 = some (0, 186, 0, 409) := rfl
theorem K_12_495 : zlk zmls 12 495 = some (1, 188, 2, 413) := rfl
theorem K_12_1059 : zlk zmls 12 1059 = some (1, 194, 3, 421) := rfl
theorem K_13_9 : zlk zmls 13 9 = some (1, 187, 2, 416) := rfl
theorem Zm_41 : zms[41]? = some zm_X2_spells := rfl
theorem Zm_42 : zms[42]? = some zm_X2_wordText := rfl
theorem Zm_183 : zms[183]? = some zm_J0_length_8abf5 := rfl
theorem Zm_184 : zms[184]? = some zm_J0_charAt_5068e := rfl
theorem Zm_185 : zms[185]? = some zm_J0_coder_7d493 := rfl
theorem Zm_186 : zms[186]? = some zm_J0_isLatin1_aae02 := rfl
theorem Zm_187 : zms[187]? = some zm_J0_checkIndex_df160 := rfl
theorem Zm_188 : zms[188]? = some zm_J1_charAt_3b067 := rfl
theorem Zm_194 : zms[194]? = some zm_J3_checkIndex_8e157 := rfl
theorem LY_76 : zLY[76]? = some (Sum.inl 0, List.replicate 8 none) := rfl
theorem LY_77 : zLY[77]? = some (Sum.inl 0, List.replicate 35 none) := rfl
theorem cl_J0_charAt_5068e : zm_J0_charAt_5068e.2.2.2.2.1 = 12 := by
  unfold zm_J0_charAt_5068e
  rfl
theorem cn2_J0_charAt_5068e : zm_J0_charAt_5068e.2.2.2.2.1 ≠ 2 := by
  rw [cl_J0_charAt_5068e]
  decide
theorem cl_J0_checkIndex_df160 : zm_J0_checkIndex_df160.2.2.2.2.1 = 12 := by
  unfold zm_J0_checkIndex_df160
  rfl
theorem cn2_J0_checkIndex_df160 : zm_J0_checkIndex_df160.2.2.2.2.1 ≠ 2 := by
  rw [cl_J0_checkIndex_df160]
  decide
theorem cl_J0_coder_7d493 : zm_J0_coder_7d493.2.2.2.2.1 = 12 := by
  unfold zm_J0_coder_7d493
  rfl
theorem cn2_J0_coder_7d493 : zm_J0_coder_7d493.2.2.2.2.1 ≠ 2 := by
  rw [cl_J0_coder_7d493]
  decide
theorem cl_J0_isLatin1_aae02 : zm_J0_isLatin1_aae02.2.2.2.2.1 = 12 := by
  unfold zm_J0_isLatin1_aae02
  rfl
theorem cn2_J0_isLatin1_aae02 : zm_J0_isLatin1_aae02.2.2.2.2.1 ≠ 2 := by
  rw [cl_J0_isLatin1_aae02]
  decide
theorem cl_J0_length_8abf5 : zm_J0_length_8abf5.2.2.2.2.1 = 12 := by
  unfold zm_J0_length_8abf5
  rfl
theorem cn2_J0_length_8abf5 : zm_J0_length_8abf5.2.2.2.2.1 ≠ 2 := by
  rw [cl_J0_length_8abf5]
  decide
theorem cl_X2_spells : zm_X2_spells.2.2.2.2.1 = 2 := by
  unfold zm_X2_spells
  rfl
theorem cn_X2_spells : zm_X2_spells.2.2.2.2.1 ≠ 12 := by
  rw [cl_X2_spells]
  decide
theorem cl_X2_wordText : zm_X2_wordText.2.2.2.2.1 = 2 := by
  unfold zm_X2_wordText
  rfl
theorem cn_X2_wordText : zm_X2_wordText.2.2.2.2.1 ≠ 12 := by
  rw [cl_X2_wordText]
  decide
theorem cl_X8_nameHere : zm_X8_nameHere.2.2.2.2.1 = 8 := by
  unfold zm_X8_nameHere
  rfl
theorem cn_X8_nameHere : zm_X8_nameHere.2.2.2.2.1 ≠ 12 := by
  rw [cl_X8_nameHere]
  decide
theorem cn2_X8_nameHere : zm_X8_nameHere.2.2.2.2.1 ≠ 2 := by
  rw [cl_X8_nameHere]
  decide
theorem t_J0_coder_7d493 {d : Nat} {m : zM} {r : Option Value} {h' : zHp} {w : Nat}  (H : zE none d zm_J0_coder_7d493 0 [.retAddr (2 * w + 1)] [] m r h') : r = some (.int 0) ∧ h' = zhp m := by
  replace H := i_gs1 (q := 3) H I_J0_coder_7d493_0 cl_J0_coder_7d493 rfl
  have W := i_if_eq (t := 13) (q := 6) H I_J0_coder_7d493_3 (by decide) rfl
  clear H
  rcases W with ⟨c_3, H⟩ | ⟨c_3, H⟩
  · skip
    replace H := i_icst (x := 1) (q := 14) H I_J0_coder_7d493_13 (by decide) rfl
    obtain ⟨hr, hh⟩ := i_ir H I_J0_coder_7d493_14
    first
    | exact ⟨hr, hh⟩
    | exact absurd c_3 (by decide)
  · skip
    replace H := i_xln (q := 7) H I_J0_coder_7d493_6 rfl rfl
    replace H := i_sco (q := 10) H I_J0_coder_7d493_7 cl_J0_coder_7d493 rfl
    replace H := i_goto (q := 14) H I_J0_coder_7d493_10 (by decide)
    obtain ⟨hr, hh⟩ := i_ir H I_J0_coder_7d493_14
    first
    | exact ⟨hr, hh⟩
    | exact absurd c_3 (by decide)
theorem t_J0_isLatin1_aae02 {d : Nat} {m : zM} {r : Option Value} {h' : zHp} {w : Nat}  (H : zE none d zm_J0_isLatin1_aae02 0 [.retAddr (2 * w + 1)] [] m r h') : r = some (.int 1) ∧ h' = zhp m := by
  replace H := i_gs1 (q := 3) H I_J0_isLatin1_aae02_0 cl_J0_isLatin1_aae02 rfl
  have W := i_if_eq (t := 17) (q := 6) H I_J0_isLatin1_aae02_3 (by decide) rfl
  clear H
  rcases W with ⟨c_3, H⟩ | ⟨c_3, H⟩
  · skip
    replace H := i_icst (x := 0) (q := 18) H I_J0_isLatin1_aae02_17 (by decide) rfl
    obtain ⟨hr, hh⟩ := i_ir H I_J0_isLatin1_aae02_18
    first
    | exact ⟨hr, hh⟩
    | exact absurd c_3 (by decide)
    | exact absurd rfl c_10
  · skip
    replace H := i_xln (q := 7) H I_J0_isLatin1_aae02_6 rfl rfl
    replace H := i_sco (q := 10) H I_J0_isLatin1_aae02_7 cl_J0_isLatin1_aae02 rfl
    have W := i_if_ne (t := 17) (q := 13) H I_J0_isLatin1_aae02_10 (by decide) rfl
    clear H
    rcases W with ⟨c_10, H⟩ | ⟨c_10, H⟩
    · skip
      replace H := i_icst (x := 0) (q := 18) H I_J0_isLatin1_aae02_17 (by decide) rfl
      obtain ⟨hr, hh⟩ := i_ir H I_J0_isLatin1_aae02_18
      first
      | exact ⟨hr, hh⟩
      | exact absurd c_3 (by decide)
      | exact absurd rfl c_10
    · skip
      replace H := i_icst (x := 1) (q := 14) H I_J0_isLatin1_aae02_13 (by decide) rfl
      replace H := i_goto (q := 18) H I_J0_isLatin1_aae02_14 (by decide)
      obtain ⟨hr, hh⟩ := i_ir H I_J0_isLatin1_aae02_18
      first
      | exact ⟨hr, hh⟩
      | exact absurd c_3 (by decide)
      | exact absurd rfl c_10
theorem zw2 {w : Nat} : (2 * w + 1) / 2 = w := by omega
theorem z_sh0 {x : Int32} : x >>> ((0 : Int32) &&& 31) = x := by
  rw [show (0 : Int32) &&& 31 = 0 by decide]
  exact Int32.shiftRight_zero
theorem t_J0_length_8abf5 {d : Nat} {m : zM} {r : Option Value} {h' : zHp} {w : Nat}  (H : zE none d zm_J0_length_8abf5 0 [.retAddr (2 * w + 1)] [] m r h') : r = some (.int (Int32.ofNat (zlen.getD w 0))) ∧ h' = zhp m := by
  replace H := i_xln (q := 1) H I_J0_length_8abf5_0 rfl rfl
  replace H := i_sv (q := 4) H I_J0_length_8abf5_1 cl_J0_length_8abf5 rfl
  replace H := i_sal (q := 5) H I_J0_length_8abf5_4 rfl
  replace H := i_xln (q := 6) H I_J0_length_8abf5_5 rfl rfl
  have W := i_cv0 0 (q := 9) H I_J0_length_8abf5_6 K_12_335 Zm_185 rfl rfl
  clear H
  obtain ⟨r1, h1, Hc, K1, K2⟩ := W
  obtain ⟨e1, e2⟩ := t_J0_coder_7d493 Hc
  have H := K1 _ _ e1 e2
  clear e1 e2 Hc K1 K2
  replace H := i_ishr (q := 10) H I_J0_length_8abf5_9 rfl
  obtain ⟨hr, hh⟩ := i_ir H I_J0_length_8abf5_10
  refine ⟨hr.trans ?_, hh⟩
  rw [zw2, z_sh0]
theorem t_J3_checkIndex_8e157 {d : Nat} {m : zM} {r : Option Value} {h' : zHp} {x y : Int32} {a : Nat} (H : zE none d zm_J3_checkIndex_8e157 0 [.int x, .int y, .retAddr a] [] m r h') : r = some (.int x) ∧ h' = zhp m := by
  replace H := i_iln (q := 1) H I_J3_checkIndex_8e157_0 rfl rfl
  have W := i_if_lt (t := 9) (q := 4) H I_J3_checkIndex_8e157_1 (by decide) rfl
  clear H
  rcases W with ⟨c_1, H⟩ | ⟨c_1, H⟩
  · skip
    replace H := i_xln (q := 10) H I_J3_checkIndex_8e157_9 rfl rfl
    replace H := i_iln (q := 11) H I_J3_checkIndex_8e157_10 rfl rfl
    replace H := i_iln (q := 12) H I_J3_checkIndex_8e157_11 rfl rfl
    exact (i_dead H I_J3_checkIndex_8e157_12 rfl).elim
  · skip
    replace H := i_iln (q := 5) H I_J3_checkIndex_8e157_4 rfl rfl
    replace H := i_iln (q := 6) H I_J3_checkIndex_8e157_5 rfl rfl
    have W := i_ic_lt (t := 16) (q := 9) H I_J3_checkIndex_8e157_6 (by decide) rfl
    clear H
    rcases W with ⟨c_6, H⟩ | ⟨c_6, H⟩
    · skip
      replace H := i_iln (q := 17) H I_J3_checkIndex_8e157_16 rfl rfl
      obtain ⟨hr, hh⟩ := i_ir H I_J3_checkIndex_8e157_17
      exact ⟨hr, hh⟩
    · skip
      replace H := i_xln (q := 10) H I_J3_checkIndex_8e157_9 rfl rfl
      replace H := i_iln (q := 11) H I_J3_checkIndex_8e157_10 rfl rfl
      replace H := i_iln (q := 12) H I_J3_checkIndex_8e157_11 rfl rfl
      exact (i_dead H I_J3_checkIndex_8e157_12 rfl).elim
theorem t_J0_checkIndex_df160 {d : Nat} {m : zM} {r : Option Value} {h' : zHp} {x y : Int32}  (H : zE none d zm_J0_checkIndex_df160 0 [.int x, .int y] [] m r h') : r = none ∧ h' = zhp m := by
  replace H := i_iln (q := 1) H I_J0_checkIndex_df160_0 rfl rfl
  replace H := i_iln (q := 2) H I_J0_checkIndex_df160_1 rfl rfl
  replace H := i_gs2 (q := 5) H I_J0_checkIndex_df160_2 cl_J0_checkIndex_df160 rfl
  have W := i_cs3 0 (q := 8) H I_J0_checkIndex_df160_5 K_12_1059 Zm_194 rfl rfl
  clear H
  obtain ⟨r1, h1, Hc, K1, K2⟩ := W
  obtain ⟨e1, e2⟩ := t_J3_checkIndex_8e157 Hc
  have H := K1 _ _ e1 e2
  clear e1 e2 Hc K1 K2
  replace H := i_pop (q := 9) H I_J0_checkIndex_df160_8 rfl rfl
  obtain ⟨hr, hh⟩ := i_rt H I_J0_checkIndex_df160_9
  exact ⟨hr, hh⟩
def zch (w i : Nat) : Int32 := (zbyt.getD w []).getD i 0
theorem zch_c : ∀ w, w < 7 → ∀ i, i < 6 → (((zch w i &&& 255).toUInt32 % 65536).toInt32) = zch w i := by decide
theorem zlen_6 : ∀ w, w < 7 → zlen.getD w 0 ≤ 6 := by decide
theorem t_J1_charAt_3b067 {d : Nat} {m : zM} {r : Option Value} {h' : zHp} {w i : Nat} {x : Int32} (hw : w < 7) (hx : x = Int32.ofNat i) (hi : i < 6) (H : zE none d zm_J1_charAt_3b067 0 [.retAddr (2 * w + 1 + 1), .int x] [] m r h') : r = some (.int (zch w i)) ∧ h' = zhp m := by
  replace H := i_iln (q := 1) H I_J1_charAt_3b067_0 rfl rfl
  replace H := i_xln (q := 2) H I_J1_charAt_3b067_1 rfl rfl
  replace H := i_sal (q := 3) H I_J1_charAt_3b067_2 rfl
  have W := i_cs2 0 (q := 6) H I_J1_charAt_3b067_3 K_13_9 Zm_187 rfl rfl
  clear H
  obtain ⟨r1, h1, Hc, K1, K2⟩ := W
  obtain ⟨e1, e2⟩ := t_J0_checkIndex_df160 Hc
  have H := K2 _ e1 e2
  clear e1 e2 Hc K1 K2
  replace H := i_xln (q := 7) H I_J1_charAt_3b067_6 rfl rfl
  replace H := i_iln (q := 8) H I_J1_charAt_3b067_7 rfl rfl
  replace H := i_sba (q := 9) H I_J1_charAt_3b067_8 rfl
  replace H := i_sip (x := 255) (q := 12) H I_J1_charAt_3b067_9 (by decide) rfl
  replace H := i_iand (q := 13) H I_J1_charAt_3b067_12 rfl
  replace H := i_i2c (q := 14) H I_J1_charAt_3b067_13 rfl
  obtain ⟨hr, hh⟩ := i_ir H I_J1_charAt_3b067_14
  refine ⟨hr.trans ?_, hh⟩
  rw [zw2, hx, Int32.toNatClampNeg_ofNat_of_lt (by omega)]
  exact congrArg (fun z => some (Value.int z)) (zch_c w hw i hi)
theorem t_J0_charAt_5068e {d : Nat} {m : zM} {r : Option Value} {h' : zHp} {w i : Nat} {x : Int32} (hw : w < 7) (hx : x = Int32.ofNat i) (hi : i < 6) (H : zE none d zm_J0_charAt_5068e 0 [.retAddr (2 * w + 1), .int x] [] m r h') : r = some (.int (zch w i)) ∧ h' = zhp m := by
  replace H := i_xln (q := 1) H I_J0_charAt_5068e_0 rfl rfl
  have W := i_cv0 0 (q := 4) H I_J0_charAt_5068e_1 K_12_492 Zm_186 rfl rfl
  clear H
  obtain ⟨r1, h1, Hc, K1, K2⟩ := W
  obtain ⟨e1, e2⟩ := t_J0_isLatin1_aae02 Hc
  have H := K1 _ _ e1 e2
  clear e1 e2 Hc K1 K2
  have W := i_if_eq (t := 16) (q := 7) H I_J0_charAt_5068e_4 (by decide) rfl
  clear H
  rcases W with ⟨c_4, H⟩ | ⟨c_4, H⟩
  · skip
    exact absurd c_4 (by decide)
  · skip
    replace H := i_xln (q := 8) H I_J0_charAt_5068e_7 rfl rfl
    replace H := i_sv (q := 11) H I_J0_charAt_5068e_8 cl_J0_charAt_5068e rfl
    replace H := i_iln (q := 12) H I_J0_charAt_5068e_11 rfl rfl
    have W := i_cs2 0 (q := 15) H I_J0_charAt_5068e_12 K_12_495 Zm_188 rfl rfl
    clear H
    obtain ⟨r1, h1, Hc, K1, K2⟩ := W
    obtain ⟨e1, e2⟩ := t_J1_charAt_3b067 hw hx hi Hc
    have H := K1 _ _ e1 e2
    clear e1 e2 Hc K1 K2
    obtain ⟨hr, hh⟩ := i_ir H I_J0_charAt_5068e_15
    exact ⟨hr, hh⟩
theorem t_X2_wordText {d : Nat} {m : zM} {r : Option Value} {h' : zHp} {x : Int32} {w : Nat} (hw : w < 7) (hx : x = Int32.ofNat w) (H : zE none d zm_X2_wordText 0 [.int x] [] m r h') : r = some (.retAddr (2 * w + 1)) ∧ h' = zhp m := by
  replace H := i_iln (q := 1) H I_X2_wordText_0 rfl rfl
  have W := i_ts1 0 (q := 40) H I_X2_wordText_1 (by decide) rfl (by decide)
  clear H
  rcases W with ⟨w_1_0, H⟩ | ⟨w_1_0, H⟩
  · skip
    replace H := i_ldx (q := 42) H I_X2_wordText_40 cl_X2_wordText rfl rfl
    obtain ⟨hr, hh⟩ := i_xr H I_X2_wordText_42
    refine ⟨hr.trans ?_, hh⟩
    have h7 : w = 0 ∨ w = 1 ∨ w = 2 ∨ w = 3 ∨ w = 4 ∨ w = 5 ∨ w = 6 := by omega
    subst hx
    rcases h7 with rfl | rfl | rfl | rfl | rfl | rfl | rfl <;> first | rfl | (exfalso; revert w_1_0; decide) | (exfalso; revert w_1_1; decide) | (exfalso; revert w_1_2; decide) | (exfalso; revert w_1_3; decide) | (exfalso; revert w_1_4; decide) | (exfalso; revert w_1_5; decide)
  · skip
    have W := i_ts1 1 (q := 43) H I_X2_wordText_1 (by decide) rfl (by decide)
    clear H
    rcases W with ⟨w_1_1, H⟩ | ⟨w_1_1, H⟩
    · skip
      replace H := i_ldx (q := 45) H I_X2_wordText_43 cl_X2_wordText rfl rfl
      obtain ⟨hr, hh⟩ := i_xr H I_X2_wordText_45
      refine ⟨hr.trans ?_, hh⟩
      have h7 : w = 0 ∨ w = 1 ∨ w = 2 ∨ w = 3 ∨ w = 4 ∨ w = 5 ∨ w = 6 := by omega
      subst hx
      rcases h7 with rfl | rfl | rfl | rfl | rfl | rfl | rfl <;> first | rfl | (exfalso; revert w_1_0; decide) | (exfalso; revert w_1_1; decide) | (exfalso; revert w_1_2; decide) | (exfalso; revert w_1_3; decide) | (exfalso; revert w_1_4; decide) | (exfalso; revert w_1_5; decide)
    · skip
      have W := i_ts1 2 (q := 46) H I_X2_wordText_1 (by decide) rfl (by decide)
      clear H
      rcases W with ⟨w_1_2, H⟩ | ⟨w_1_2, H⟩
      · skip
        replace H := i_ldx (q := 48) H I_X2_wordText_46 cl_X2_wordText rfl rfl
        obtain ⟨hr, hh⟩ := i_xr H I_X2_wordText_48
        refine ⟨hr.trans ?_, hh⟩
        have h7 : w = 0 ∨ w = 1 ∨ w = 2 ∨ w = 3 ∨ w = 4 ∨ w = 5 ∨ w = 6 := by omega
        subst hx
        rcases h7 with rfl | rfl | rfl | rfl | rfl | rfl | rfl <;> first | rfl | (exfalso; revert w_1_0; decide) | (exfalso; revert w_1_1; decide) | (exfalso; revert w_1_2; decide) | (exfalso; revert w_1_3; decide) | (exfalso; revert w_1_4; decide) | (exfalso; revert w_1_5; decide)
      · skip
        have W := i_ts1 3 (q := 49) H I_X2_wordText_1 (by decide) rfl (by decide)
        clear H
        rcases W with ⟨w_1_3, H⟩ | ⟨w_1_3, H⟩
        · skip
          replace H := i_ldx (q := 51) H I_X2_wordText_49 cl_X2_wordText rfl rfl
          obtain ⟨hr, hh⟩ := i_xr H I_X2_wordText_51
          refine ⟨hr.trans ?_, hh⟩
          have h7 : w = 0 ∨ w = 1 ∨ w = 2 ∨ w = 3 ∨ w = 4 ∨ w = 5 ∨ w = 6 := by omega
          subst hx
          rcases h7 with rfl | rfl | rfl | rfl | rfl | rfl | rfl <;> first | rfl | (exfalso; revert w_1_0; decide) | (exfalso; revert w_1_1; decide) | (exfalso; revert w_1_2; decide) | (exfalso; revert w_1_3; decide) | (exfalso; revert w_1_4; decide) | (exfalso; revert w_1_5; decide)
        · skip
          have W := i_ts1 4 (q := 52) H I_X2_wordText_1 (by decide) rfl (by decide)
          clear H
          rcases W with ⟨w_1_4, H⟩ | ⟨w_1_4, H⟩
          · skip
            replace H := i_ldx (q := 54) H I_X2_wordText_52 cl_X2_wordText rfl rfl
            obtain ⟨hr, hh⟩ := i_xr H I_X2_wordText_54
            refine ⟨hr.trans ?_, hh⟩
            have h7 : w = 0 ∨ w = 1 ∨ w = 2 ∨ w = 3 ∨ w = 4 ∨ w = 5 ∨ w = 6 := by omega
            subst hx
            rcases h7 with rfl | rfl | rfl | rfl | rfl | rfl | rfl <;> first | rfl | (exfalso; revert w_1_0; decide) | (exfalso; revert w_1_1; decide) | (exfalso; revert w_1_2; decide) | (exfalso; revert w_1_3; decide) | (exfalso; revert w_1_4; decide) | (exfalso; revert w_1_5; decide)
          · skip
            have W := i_ts1 5 (q := 55) H I_X2_wordText_1 (by decide) rfl (by decide)
            clear H
            rcases W with ⟨w_1_5, H⟩ | ⟨w_1_5, H⟩
            · skip
              replace H := i_ldx (q := 57) H I_X2_wordText_55 cl_X2_wordText rfl rfl
              obtain ⟨hr, hh⟩ := i_xr H I_X2_wordText_57
              refine ⟨hr.trans ?_, hh⟩
              have h7 : w = 0 ∨ w = 1 ∨ w = 2 ∨ w = 3 ∨ w = 4 ∨ w = 5 ∨ w = 6 := by omega
              subst hx
              rcases h7 with rfl | rfl | rfl | rfl | rfl | rfl | rfl <;> first | rfl | (exfalso; revert w_1_0; decide) | (exfalso; revert w_1_1; decide) | (exfalso; revert w_1_2; decide) | (exfalso; revert w_1_3; decide) | (exfalso; revert w_1_4; decide) | (exfalso; revert w_1_5; decide)
            · skip
              replace H := i_tsd (q := 58) H I_X2_wordText_1 (by have q0 := zne w_1_0 (z := 0) (by decide); have q1 := zne w_1_1 (z := 1) (by decide); have q2 := zne w_1_2 (z := 2) (by decide); have q3 := zne w_1_3 (z := 3) (by decide); have q4 := zne w_1_4 (z := 4) (by decide); have q5 := zne w_1_5 (z := 5) (by decide); omega) (by decide)
              replace H := i_ldx (q := 60) H I_X2_wordText_58 cl_X2_wordText rfl rfl
              obtain ⟨hr, hh⟩ := i_xr H I_X2_wordText_60
              refine ⟨hr.trans ?_, hh⟩
              have h7 : w = 0 ∨ w = 1 ∨ w = 2 ∨ w = 3 ∨ w = 4 ∨ w = 5 ∨ w = 6 := by omega
              subst hx
              rcases h7 with rfl | rfl | rfl | rfl | rfl | rfl | rfl <;> first | rfl | (exfalso; revert w_1_0; decide) | (exfalso; revert w_1_1; decide) | (exfalso; revert w_1_2; decide) | (exfalso; revert w_1_3; decide) | (exfalso; revert w_1_4; decide) | (exfalso; revert w_1_5; decide)
/-- the letters from place s on are those of the word w, from its k-th on, j of them -/
def zal (t : Nat → Int32) (s w : Nat) : Nat → Nat → Bool
  | _, 0 => true
  | k, j + 1 => decide (t (s + k) = zch w k) && zal t s w (k + 1) j
def zmat (t : Nat → Int32) (s e w : Nat) : Bool := decide (e - s = zlen.getD w 0) && zal t s w 0 (zlen.getD w 0)
def zwf (t : Nat → Int32) (s e : Nat) : Nat → Nat → Nat
  | 0, w => w
  | k + 1, w => if zmat t s e w = true then w else zwf t s e k (w + 1)
/-- which word stands there; 7: none -/
def zword (t : Nat → Int32) (s e : Nat) : Nat := zwf t s e 7 0
theorem sp_loop {m : zM} {w s : Nat} (hw : w < 7) (hs : m 1 8 = Int32.ofNat s) (hs2 : s ≤ 160) : ∀ (j k d : Nat) (r : Option Value) (h' : zHp), k + j = zlen.getD w 0 → zE none d zm_X2_spells 20 [.ref 1, .retAddr (2 * w + 1), .int (Int32.ofNat k)] [] m r h' → r = some (.int (if zal (m 2) s w k j = true then 1 else 0)) ∧ h' = zhp m := by
  have h6 := zlen_6 w hw
  intro j
  induction j with
  | zero =>
    intro k d r h' hk H
    replace H := i_iln (q := 21) H I_X2_spells_20 rfl rfl
    replace H := i_xln (q := 22) H I_X2_spells_21 rfl rfl
    have W := i_cv0 0 (q := 25) H I_X2_spells_22 K_2_135 Zm_183 rfl rfl
    clear H
    obtain ⟨r1, h1, Hc, K1, K2⟩ := W
    obtain ⟨e1, e2⟩ := t_J0_length_8abf5 Hc
    have H := K1 _ _ e1 e2
    clear e1 e2 Hc K1 K2
    have W := i_ic_ge (t := 55) (q := 28) H I_X2_spells_25 (by decide) rfl
    clear H
    rcases W with ⟨c_25, H⟩ | ⟨c_25, H⟩
    · skip
      replace H := i_icst (x := 1) (q := 56) H I_X2_spells_55 (by decide) rfl
      obtain ⟨hr, hh⟩ := i_ir H I_X2_spells_56
      refine ⟨hr.trans ?_, hh⟩
      rfl
    · skip
      replace H := i_aln (q := 29) H I_X2_spells_28 rfl rfl
      replace H := i_gfr (q := 32) H I_X2_spells_29 G_2_9 cn_X2_spells LY_1 rfl rfl
      replace H := i_aln (q := 33) H I_X2_spells_32 rfl rfl
      replace H := i_gfi (q := 36) H I_X2_spells_33 G_2_102 cn_X2_spells LY_1 rfl rfl
      replace H := i_iln (q := 37) H I_X2_spells_36 rfl rfl
      replace H := i_iadd (q := 38) H I_X2_spells_37 rfl
      have W := i_ba (q := 39) H I_X2_spells_38 LY_2 rfl
      clear H
      obtain ⟨i_38, bi_38, ei_38, H⟩ := W
      replace H := i_xln (q := 40) H I_X2_spells_39 rfl rfl
      replace H := i_iln (q := 41) H I_X2_spells_40 rfl rfl
      have W := i_cv1 0 (q := 44) H I_X2_spells_41 K_2_139 Zm_184 rfl rfl
      clear H
      obtain ⟨r1, h1, Hc, K1, K2⟩ := W
      obtain ⟨e1, e2⟩ := t_J0_charAt_5068e hw rfl (by have := (zofn_lt (by omega) (by omega)).mp c_25; omega) Hc
      have H := K1 _ _ e1 e2
      clear e1 e2 Hc K1 K2
      have W := i_ic_eq (t := 49) (q := 47) H I_X2_spells_44 (by decide) rfl
      clear H
      rcases W with ⟨c_44, H⟩ | ⟨c_44, H⟩
      · skip
        replace H := i_inc (q := 52) H I_X2_spells_49 rfl rfl rfl
        replace H := i_goto (q := 20) H I_X2_spells_52 (by decide)
        exfalso
        exact absurd ((zofn_lt (by omega) (by omega)).mp c_25) (by omega)
      · skip
        replace H := i_icst (x := 0) (q := 48) H I_X2_spells_47 (by decide) rfl
        obtain ⟨hr, hh⟩ := i_ir H I_X2_spells_48
        exfalso
        exact absurd ((zofn_lt (by omega) (by omega)).mp c_25) (by omega)
  | succ j ih =>
    intro k d r h' hk H
    replace H := i_iln (q := 21) H I_X2_spells_20 rfl rfl
    replace H := i_xln (q := 22) H I_X2_spells_21 rfl rfl
    have W := i_cv0 0 (q := 25) H I_X2_spells_22 K_2_135 Zm_183 rfl rfl
    clear H
    obtain ⟨r1, h1, Hc, K1, K2⟩ := W
    obtain ⟨e1, e2⟩ := t_J0_length_8abf5 Hc
    have H := K1 _ _ e1 e2
    clear e1 e2 Hc K1 K2
    have W := i_ic_ge (t := 55) (q := 28) H I_X2_spells_25 (by decide) rfl
    clear H
    rcases W with ⟨c_25, H⟩ | ⟨c_25, H⟩
    · skip
      replace H := i_icst (x := 1) (q := 56) H I_X2_spells_55 (by decide) rfl
      obtain ⟨hr, hh⟩ := i_ir H I_X2_spells_56
      exfalso
      exact c_25 ((zofn_lt (by omega) (by omega)).mpr (by omega))
    · skip
      replace H := i_aln (q := 29) H I_X2_spells_28 rfl rfl
      replace H := i_gfr (q := 32) H I_X2_spells_29 G_2_9 cn_X2_spells LY_1 rfl rfl
      replace H := i_aln (q := 33) H I_X2_spells_32 rfl rfl
      replace H := i_gfi (q := 36) H I_X2_spells_33 G_2_102 cn_X2_spells LY_1 rfl rfl
      replace H := i_iln (q := 37) H I_X2_spells_36 rfl rfl
      replace H := i_iadd (q := 38) H I_X2_spells_37 rfl
      have W := i_ba (q := 39) H I_X2_spells_38 LY_2 rfl
      clear H
      obtain ⟨i_38, bi_38, ei_38, H⟩ := W
      replace H := i_xln (q := 40) H I_X2_spells_39 rfl rfl
      replace H := i_iln (q := 41) H I_X2_spells_40 rfl rfl
      have W := i_cv1 0 (q := 44) H I_X2_spells_41 K_2_139 Zm_184 rfl rfl
      clear H
      obtain ⟨r1, h1, Hc, K1, K2⟩ := W
      obtain ⟨e1, e2⟩ := t_J0_charAt_5068e hw rfl (by have := (zofn_lt (by omega) (by omega)).mp c_25; omega) Hc
      have H := K1 _ _ e1 e2
      clear e1 e2 Hc K1 K2
      have W := i_ic_eq (t := 49) (q := 47) H I_X2_spells_44 (by decide) rfl
      clear H
      rcases W with ⟨c_44, H⟩ | ⟨c_44, H⟩
      · skip
        replace H := i_inc (q := 52) H I_X2_spells_49 rfl rfl rfl
        replace H := i_goto (q := 20) H I_X2_spells_52 (by decide)
        rw [hs, ← Int32.ofNat_add] at ei_38
        have ei : i_38 = s + k := zofn ei_38.symm (by omega) (by omega)
        subst ei
        replace H : zE none d zm_X2_spells 20 [.ref 1, .retAddr (2 * w + 1), .int (Int32.ofNat (k + 1))] [] m r h' := by rw [← zofn_s]; exact H
        obtain ⟨g1, g2⟩ := ih (k + 1) d r h' (by omega) H
        refine ⟨g1.trans ?_, g2⟩
        simp [zal, c_44]
      · skip
        replace H := i_icst (x := 0) (q := 48) H I_X2_spells_47 (by decide) rfl
        obtain ⟨hr, hh⟩ := i_ir H I_X2_spells_48
        rw [hs, ← Int32.ofNat_add] at ei_38
        have ei : i_38 = s + k := zofn ei_38.symm (by omega) (by omega)
        subst ei
        refine ⟨hr.trans ?_, hh⟩
        simp [zal, c_44]
theorem t_X2_spells {d : Nat} {m : zM} {r : Option Value} {h' : zHp} {w s e : Nat} (hw : w < 7) (hs : m 1 8 = Int32.ofNat s) (he : m 1 6 = Int32.ofNat e) (hse : s ≤ e) (he2 : e ≤ 160) (H : zE none d zm_X2_spells 0 [.ref 1, .retAddr (2 * w + 1), .null] [] m r h') : r = some (.int (if zmat (m 2) s e w = true then 1 else 0)) ∧ h' = zhp m := by
  have h6 := zlen_6 w hw
  have hsub : m 1 6 - m 1 8 = Int32.ofNat (e - s) := by rw [he, hs, ← zofn_sub hse]
  replace H := i_aln (q := 1) H I_X2_spells_0 rfl rfl
  replace H := i_gfi (q := 4) H I_X2_spells_1 G_2_25 cn_X2_spells LY_1 rfl rfl
  replace H := i_aln (q := 5) H I_X2_spells_4 rfl rfl
  replace H := i_gfi (q := 8) H I_X2_spells_5 G_2_102 cn_X2_spells LY_1 rfl rfl
  replace H := i_isub (q := 9) H I_X2_spells_8 rfl
  replace H := i_xln (q := 10) H I_X2_spells_9 rfl rfl
  have W := i_cv0 0 (q := 13) H I_X2_spells_10 K_2_135 Zm_183 rfl rfl
  clear H
  obtain ⟨r1, h1, Hc, K1, K2⟩ := W
  obtain ⟨e1, e2⟩ := t_J0_length_8abf5 Hc
  have H := K1 _ _ e1 e2
  clear e1 e2 Hc K1 K2
  have W := i_ic_eq (t := 18) (q := 16) H I_X2_spells_13 (by decide) rfl
  clear H
  rcases W with ⟨c_13, H⟩ | ⟨c_13, H⟩
  · skip
    replace H := i_icst (x := 0) (q := 19) H I_X2_spells_18 (by decide) rfl
    replace H := i_isn (q := 20) H I_X2_spells_19 rfl rfl
    rw [hsub] at c_13
    have heq : e - s = zlen.getD w 0 := zofn c_13 (by omega) (by omega)
    obtain ⟨g1, g2⟩ := sp_loop hw hs (by omega) (zlen.getD w 0) 0 d r h' (by omega) H
    refine ⟨g1.trans ?_, g2⟩
    rw [zmat, decide_eq_true heq, Bool.true_and]
  · skip
    replace H := i_icst (x := 0) (q := 17) H I_X2_spells_16 (by decide) rfl
    obtain ⟨hr, hh⟩ := i_ir H I_X2_spells_17
    rw [hsub] at c_13
    have hne : ¬ e - s = zlen.getD w 0 := fun q => c_13 (by rw [q])
    refine ⟨hr.trans ?_, hh⟩
    rw [zmat, decide_eq_false hne, Bool.false_and]
    rfl
theorem wd_loop {m : zM} {s e : Nat} (hs : m 1 8 = Int32.ofNat s) (he : m 1 6 = Int32.ofNat e) (hse : s ≤ e) (he2 : e ≤ 160) : ∀ (j w d : Nat) (r : Option Value) (h' : zHp), w + j = 7 → zE none d zm_X2_word 2 [.ref 1, .int (Int32.ofNat w)] [] m r h' → r = some (.int (Int32.ofNat (zwf (m 2) s e j w))) ∧ h' = zhp m := by
  intro j
  induction j with
  | zero =>
    intro w d r h' hj H
    replace H := i_iln (q := 3) H I_X2_word_2 rfl rfl
    replace H := i_bip (x := 7) (q := 5) H I_X2_word_3 (by decide) rfl
    have W := i_ic_ge (t := 27) (q := 8) H I_X2_word_5 (by decide) rfl
    clear H
    rcases W with ⟨c_5, H⟩ | ⟨c_5, H⟩
    · skip
      replace H := i_bip (x := 7) (q := 29) H I_X2_word_27 (by decide) rfl
      obtain ⟨hr, hh⟩ := i_ir H I_X2_word_29
      have hw7 : w = 7 := by omega
      subst hw7
      exact ⟨hr, hh⟩
    · skip
      replace H := i_aln (q := 9) H I_X2_word_8 rfl rfl
      replace H := i_iln (q := 10) H I_X2_word_9 rfl rfl
      have W := i_cs1 0 (q := 13) H I_X2_word_10 K_2_127 Zm_42 rfl rfl
      clear H
      obtain ⟨r1, h1, Hc, K1, K2⟩ := W
      have hw : w < 7 := (zofn_lt (j := 7) (by omega) (by decide)).mp c_5
      obtain ⟨e1, e2⟩ := t_X2_wordText hw rfl Hc
      have H := K1 _ _ e1 e2
      clear e1 e2 Hc K1 K2
      have W := i_cv1 1 (q := 16) H I_X2_word_13 K_2_131 Zm_41 rfl rfl
      clear H
      obtain ⟨r1, h1, Hc, K1, K2⟩ := W
      obtain ⟨e1, e2⟩ := t_X2_spells hw hs he hse he2 Hc
      have H := K1 _ _ e1 e2
      clear e1 e2 Hc K1 K2
      have W := i_if_eq (t := 21) (q := 19) H I_X2_word_16 (by decide) rfl
      clear H
      rcases W with ⟨c_16, H⟩ | ⟨c_16, H⟩
      · skip
        replace H := i_inc (q := 24) H I_X2_word_21 rfl rfl rfl
        replace H := i_goto (q := 2) H I_X2_word_24 (by decide)
        omega
      · skip
        replace H := i_iln (q := 20) H I_X2_word_19 rfl rfl
        obtain ⟨hr, hh⟩ := i_ir H I_X2_word_20
        exfalso
        exact absurd ((zofn_lt (j := 7) (by omega) (by decide)).mp c_5) (by omega)
  | succ j ih =>
    intro w d r h' hj H
    replace H := i_iln (q := 3) H I_X2_word_2 rfl rfl
    replace H := i_bip (x := 7) (q := 5) H I_X2_word_3 (by decide) rfl
    have W := i_ic_ge (t := 27) (q := 8) H I_X2_word_5 (by decide) rfl
    clear H
    rcases W with ⟨c_5, H⟩ | ⟨c_5, H⟩
    · skip
      replace H := i_bip (x := 7) (q := 29) H I_X2_word_27 (by decide) rfl
      obtain ⟨hr, hh⟩ := i_ir H I_X2_word_29
      exfalso
      exact c_5 ((zofn_lt (j := 7) (by omega) (by decide)).mpr (by omega))
    · skip
      replace H := i_aln (q := 9) H I_X2_word_8 rfl rfl
      replace H := i_iln (q := 10) H I_X2_word_9 rfl rfl
      have W := i_cs1 0 (q := 13) H I_X2_word_10 K_2_127 Zm_42 rfl rfl
      clear H
      obtain ⟨r1, h1, Hc, K1, K2⟩ := W
      have hw : w < 7 := (zofn_lt (j := 7) (by omega) (by decide)).mp c_5
      obtain ⟨e1, e2⟩ := t_X2_wordText hw rfl Hc
      have H := K1 _ _ e1 e2
      clear e1 e2 Hc K1 K2
      have W := i_cv1 1 (q := 16) H I_X2_word_13 K_2_131 Zm_41 rfl rfl
      clear H
      obtain ⟨r1, h1, Hc, K1, K2⟩ := W
      obtain ⟨e1, e2⟩ := t_X2_spells hw hs he hse he2 Hc
      have H := K1 _ _ e1 e2
      clear e1 e2 Hc K1 K2
      have W := i_if_eq (t := 21) (q := 19) H I_X2_word_16 (by decide) rfl
      clear H
      rcases W with ⟨c_16, H⟩ | ⟨c_16, H⟩
      · skip
        replace H := i_inc (q := 24) H I_X2_word_21 rfl rfl rfl
        replace H := i_goto (q := 2) H I_X2_word_24 (by decide)
        replace H : zE none d zm_X2_word 2 [.ref 1, .int (Int32.ofNat (w + 1))] [] m r h' := by rw [← zofn_s]; exact H
        obtain ⟨g1, g2⟩ := ih (w + 1) d r h' (by omega) H
        refine ⟨g1.trans ?_, g2⟩
        have hz : zmat (m 2) s e w = false := by simpa using c_16
        simp [zwf, hz]
      · skip
        replace H := i_iln (q := 20) H I_X2_word_19 rfl rfl
        obtain ⟨hr, hh⟩ := i_ir H I_X2_word_20
        have hz : zmat (m 2) s e w = true := by simpa using c_16
        refine ⟨hr.trans ?_, hh⟩
        simp [zwf, hz]
theorem t_X2_word {d : Nat} {m : zM} {r : Option Value} {h' : zHp} {s e : Nat} (hs : m 1 8 = Int32.ofNat s) (he : m 1 6 = Int32.ofNat e) (hse : s ≤ e) (he2 : e ≤ 160) (H : zE none d zm_X2_word 0 [.ref 1, .null] [] m r h') : r = some (.int (Int32.ofNat (zword (m 2) s e))) ∧ h' = zhp m := by
  replace H := i_icst (x := 0) (q := 1) H I_X2_word_0 (by decide) rfl
  replace H := i_isn (q := 2) H I_X2_word_1 rfl rfl
  exact wd_loop hs he hse he2 7 0 d r h' rfl H
def zcut : Nat → Nat
  | 0 => 0
  | 1 => 5
  | 2 => 11
  | 3 => 16
  | 4 => 22
  | 5 => 26
  | 6 => 31
  | _ => 35
theorem zcut_1 : ∀ w, w < 7 → zcut (w + 1) = zcut w + zlen.getD w 0 := by decide
theorem zcut_2 : ∀ w, w < 7 → zcut w ≤ 31 := by decide
/-- the reference's tables of names -/
def zTab (m : zM) : Prop := (∀ w, w < 8 → m 76 w = Int32.ofNat (zcut w)) ∧ ∀ w, w < 7 → ∀ k, k < zlen.getD w 0 → m 77 (zcut w + k) = zch w k
theorem nh_in {m : zM} {w s e n : Nat} (hT : zTab m) (hw : w < 7) (hs : m 71 13 = Int32.ofNat s) (he : m 71 12 = Int32.ofNat e) (hse : s ≤ e) (hen : e ≤ n) (hn : m 71 8 = Int32.ofNat n) (hn2 : n ≤ 160) (hl : e - s = zlen.getD w 0) : ∀ (j k d : Nat) (r : Option Value) (h' : zHp), k + j = e - s → zE none d zm_X8_nameHere 51 [.ref 71, .int (Int32.ofNat w), .int 1, .int (Int32.ofNat k)] [] m r h' → zE none d zm_X8_nameHere 106 [.ref 71, .int (Int32.ofNat w), .int (if zal (m 75) s w k j = true then 1 else 0), .null] [] m r h' := by
  have hsub : m 71 12 - m 71 13 = Int32.ofNat (e - s) := by rw [he, hs, ← zofn_sub hse]
  have hc2 := zcut_2 w hw
  have h6 := zlen_6 w hw
  intro j
  induction j with
  | zero =>
    intro k d r h' hk H
    replace H := i_iln (q := 52) H I_X8_nameHere_51 rfl rfl
    have W := i_if_eq (t := 106) (q := 55) H I_X8_nameHere_52 (by decide) rfl
    clear H
    rcases W with ⟨c_52, H⟩ | ⟨c_52, H⟩
    · skip
      exact absurd c_52 (by decide)
    · skip
      replace H := i_iln (q := 56) H I_X8_nameHere_55 rfl rfl
      replace H := i_aln (q := 57) H I_X8_nameHere_56 rfl rfl
      replace H := i_gfi (q := 60) H I_X8_nameHere_57 G_8_75 cn_X8_nameHere LY_71 rfl rfl
      replace H := i_aln (q := 61) H I_X8_nameHere_60 rfl rfl
      replace H := i_gfi (q := 64) H I_X8_nameHere_61 G_8_66 cn_X8_nameHere LY_71 rfl rfl
      replace H := i_isub (q := 65) H I_X8_nameHere_64 rfl
      have W := i_ic_ge (t := 106) (q := 68) H I_X8_nameHere_65 (by decide) rfl
      clear H
      rcases W with ⟨c_65, H⟩ | ⟨c_65, H⟩
      · skip
        replace H := i_w [true, true, true, false] H
        exact H
      · skip
        replace H := i_aln (q := 69) H I_X8_nameHere_68 rfl rfl
        replace H := i_aln (q := 70) H I_X8_nameHere_69 rfl rfl
        replace H := i_gfi (q := 73) H I_X8_nameHere_70 G_8_66 cn_X8_nameHere LY_71 rfl rfl
        replace H := i_iln (q := 74) H I_X8_nameHere_73 rfl rfl
        replace H := i_iadd (q := 75) H I_X8_nameHere_74 rfl
        have W := i_cv1 0 (q := 78) H I_X8_nameHere_75 K_8_78 Zm_117 rfl rfl
        clear H
        obtain ⟨r1, h1, Hc, K1, K2⟩ := W
        obtain ⟨e1, e2⟩ := t_X8_byteAt (p := s + k) (n := n) (by rw [hs, ← Int32.ofNat_add]) (by omega) hn hn2 Hc
        have H := K1 _ _ e1 e2
        clear e1 e2 Hc K1 K2
        replace H := i_aln (q := 79) H I_X8_nameHere_78 rfl rfl
        replace H := i_gfr (q := 82) H I_X8_nameHere_79 G_8_25 cn_X8_nameHere LY_71 rfl rfl
        replace H := i_aln (q := 83) H I_X8_nameHere_82 rfl rfl
        replace H := i_gfr (q := 86) H I_X8_nameHere_83 G_8_22 cn_X8_nameHere LY_71 rfl rfl
        replace H := i_iln (q := 87) H I_X8_nameHere_86 rfl rfl
        have W := i_ia (q := 88) H I_X8_nameHere_87 LY_76 rfl
        clear H
        obtain ⟨i_87, bi_87, ei_87, H⟩ := W
        replace H := i_iln (q := 89) H I_X8_nameHere_88 rfl rfl
        replace H := i_iadd (q := 90) H I_X8_nameHere_89 rfl
        have W := i_ia (q := 91) H I_X8_nameHere_90 LY_77 rfl
        clear H
        obtain ⟨i_90, bi_90, ei_90, H⟩ := W
        have W := i_ic_ne (t := 98) (q := 94) H I_X8_nameHere_91 (by decide) rfl
        clear H
        rcases W with ⟨c_91, H⟩ | ⟨c_91, H⟩
        · skip
          replace H := i_icst (x := 0) (q := 99) H I_X8_nameHere_98 (by decide) rfl
          replace H := i_isn (q := 100) H I_X8_nameHere_99 rfl rfl
          replace H := i_inc (q := 103) H I_X8_nameHere_100 rfl rfl rfl
          replace H := i_goto (q := 51) H I_X8_nameHere_103 (by decide)
          exfalso
          rw [hsub] at c_65
          exact absurd ((zofn_lt (by omega) (by omega)).mp c_65) (by omega)
        · skip
          replace H := i_icst (x := 1) (q := 95) H I_X8_nameHere_94 (by decide) rfl
          replace H := i_goto (q := 99) H I_X8_nameHere_95 (by decide)
          replace H := i_isn (q := 100) H I_X8_nameHere_99 rfl rfl
          replace H := i_inc (q := 103) H I_X8_nameHere_100 rfl rfl rfl
          replace H := i_goto (q := 51) H I_X8_nameHere_103 (by decide)
          exfalso
          rw [hsub] at c_65
          exact absurd ((zofn_lt (by omega) (by omega)).mp c_65) (by omega)
  | succ j ih =>
    intro k d r h' hk H
    replace H := i_iln (q := 52) H I_X8_nameHere_51 rfl rfl
    have W := i_if_eq (t := 106) (q := 55) H I_X8_nameHere_52 (by decide) rfl
    clear H
    rcases W with ⟨c_52, H⟩ | ⟨c_52, H⟩
    · skip
      exact absurd c_52 (by decide)
    · skip
      replace H := i_iln (q := 56) H I_X8_nameHere_55 rfl rfl
      replace H := i_aln (q := 57) H I_X8_nameHere_56 rfl rfl
      replace H := i_gfi (q := 60) H I_X8_nameHere_57 G_8_75 cn_X8_nameHere LY_71 rfl rfl
      replace H := i_aln (q := 61) H I_X8_nameHere_60 rfl rfl
      replace H := i_gfi (q := 64) H I_X8_nameHere_61 G_8_66 cn_X8_nameHere LY_71 rfl rfl
      replace H := i_isub (q := 65) H I_X8_nameHere_64 rfl
      have W := i_ic_ge (t := 106) (q := 68) H I_X8_nameHere_65 (by decide) rfl
      clear H
      rcases W with ⟨c_65, H⟩ | ⟨c_65, H⟩
      · skip
        exfalso
        rw [hsub] at c_65
        exact c_65 ((zofn_lt (by omega) (by omega)).mpr (by omega))
      · skip
        replace H := i_aln (q := 69) H I_X8_nameHere_68 rfl rfl
        replace H := i_aln (q := 70) H I_X8_nameHere_69 rfl rfl
        replace H := i_gfi (q := 73) H I_X8_nameHere_70 G_8_66 cn_X8_nameHere LY_71 rfl rfl
        replace H := i_iln (q := 74) H I_X8_nameHere_73 rfl rfl
        replace H := i_iadd (q := 75) H I_X8_nameHere_74 rfl
        have W := i_cv1 0 (q := 78) H I_X8_nameHere_75 K_8_78 Zm_117 rfl rfl
        clear H
        obtain ⟨r1, h1, Hc, K1, K2⟩ := W
        obtain ⟨e1, e2⟩ := t_X8_byteAt (p := s + k) (n := n) (by rw [hs, ← Int32.ofNat_add]) (by omega) hn hn2 Hc
        have H := K1 _ _ e1 e2
        clear e1 e2 Hc K1 K2
        replace H := i_aln (q := 79) H I_X8_nameHere_78 rfl rfl
        replace H := i_gfr (q := 82) H I_X8_nameHere_79 G_8_25 cn_X8_nameHere LY_71 rfl rfl
        replace H := i_aln (q := 83) H I_X8_nameHere_82 rfl rfl
        replace H := i_gfr (q := 86) H I_X8_nameHere_83 G_8_22 cn_X8_nameHere LY_71 rfl rfl
        replace H := i_iln (q := 87) H I_X8_nameHere_86 rfl rfl
        have W := i_ia (q := 88) H I_X8_nameHere_87 LY_76 rfl
        clear H
        obtain ⟨i_87, bi_87, ei_87, H⟩ := W
        replace H := i_iln (q := 89) H I_X8_nameHere_88 rfl rfl
        replace H := i_iadd (q := 90) H I_X8_nameHere_89 rfl
        have W := i_ia (q := 91) H I_X8_nameHere_90 LY_77 rfl
        clear H
        obtain ⟨i_90, bi_90, ei_90, H⟩ := W
        have W := i_ic_ne (t := 98) (q := 94) H I_X8_nameHere_91 (by decide) rfl
        clear H
        rcases W with ⟨c_91, H⟩ | ⟨c_91, H⟩
        · skip
          replace H := i_icst (x := 0) (q := 99) H I_X8_nameHere_98 (by decide) rfl
          replace H := i_isn (q := 100) H I_X8_nameHere_99 rfl rfl
          replace H := i_inc (q := 103) H I_X8_nameHere_100 rfl rfl rfl
          replace H := i_goto (q := 51) H I_X8_nameHere_103 (by decide)
          rw [if_pos (by omega)] at c_91
          have e1 : i_87 = w := zofn ei_87.symm (by omega) (by omega)
          subst e1
          rw [hT.1 i_87 (by omega), ← Int32.ofNat_add] at ei_90
          have e2 : i_90 = zcut i_87 + k := zofn ei_90.symm (by omega) (by omega)
          subst e2
          rw [hT.2 i_87 hw k (by omega)] at c_91
          replace H : zE none d zm_X8_nameHere 51 [.ref 71, .int (Int32.ofNat i_87), .int 0, .int (Int32.ofNat (k + 1))] [] m r h' := by rw [← zofn_s]; exact H
          rw [show zal (m 75) s i_87 k (j + 1) = false by simp [zal, c_91]]
          replace H := i_iln (q := 52) H I_X8_nameHere_51 rfl rfl
          have W := i_if_eq (t := 106) (q := 55) H I_X8_nameHere_52 (by decide) rfl
          clear H
          rcases W with ⟨c_52, H⟩ | ⟨c_52, H⟩
          · skip
            replace H := i_w [true, true, true, false] H
            exact H
          · skip
            exact absurd rfl c_52
        · skip
          replace H := i_icst (x := 1) (q := 95) H I_X8_nameHere_94 (by decide) rfl
          replace H := i_goto (q := 99) H I_X8_nameHere_95 (by decide)
          replace H := i_isn (q := 100) H I_X8_nameHere_99 rfl rfl
          replace H := i_inc (q := 103) H I_X8_nameHere_100 rfl rfl rfl
          replace H := i_goto (q := 51) H I_X8_nameHere_103 (by decide)
          rw [if_pos (by omega)] at c_91
          have e1 : i_87 = w := zofn ei_87.symm (by omega) (by omega)
          subst e1
          rw [hT.1 i_87 (by omega), ← Int32.ofNat_add] at ei_90
          have e2 : i_90 = zcut i_87 + k := zofn ei_90.symm (by omega) (by omega)
          subst e2
          rw [hT.2 i_87 hw k (by omega)] at c_91
          replace H : zE none d zm_X8_nameHere 51 [.ref 71, .int (Int32.ofNat i_87), .int 1, .int (Int32.ofNat (k + 1))] [] m r h' := by rw [← zofn_s]; exact H
          have := ih (k + 1) d r h' (by omega) H
          rw [show zal (m 75) s i_87 k (j + 1) = zal (m 75) s i_87 (k + 1) j by simp [zal, c_91]]
          exact this
def znm (w : Nat) : Int32 := if w = 7 then -4 else Int32.ofNat w
theorem nh_loop {m : zM} {s e n : Nat} (hT : zTab m) (ht : m 71 14 = 1) (hs : m 71 13 = Int32.ofNat s) (he : m 71 12 = Int32.ofNat e) (hse : s ≤ e) (hen : e ≤ n) (hn : m 71 8 = Int32.ofNat n) (hn2 : n ≤ 160) : ∀ (j w d : Nat) (r : Option Value) (h' : zHp), w + j = 7 → zE none d zm_X8_nameHere 2 [.ref 71, .int (Int32.ofNat w), .null, .null] [] m r h' → r = some (.int (znm (zwf (m 75) s e j w))) ∧ h' = zhp m := by
  have hsub : m 71 12 - m 71 13 = Int32.ofNat (e - s) := by rw [he, hs, ← zofn_sub hse]
  intro j
  induction j with
  | zero =>
    intro w d r h' hj H
    replace H := i_iln (q := 3) H I_X8_nameHere_2 rfl rfl
    replace H := i_bip (x := 7) (q := 5) H I_X8_nameHere_3 (by decide) rfl
    have W := i_ic_ge (t := 118) (q := 8) H I_X8_nameHere_5 (by decide) rfl
    clear H
    rcases W with ⟨c_5, H⟩ | ⟨c_5, H⟩
    · skip
      replace H := i_bip (x := (-4)) (q := 120) H I_X8_nameHere_118 (by decide) rfl
      obtain ⟨hr, hh⟩ := i_ir H I_X8_nameHere_120
      have hw7 : w = 7 := by omega
      subst hw7
      exact ⟨hr, hh⟩
    · skip
      replace H := i_aln (q := 9) H I_X8_nameHere_8 rfl rfl
      replace H := i_gfi (q := 12) H I_X8_nameHere_9 G_8_72 cn_X8_nameHere LY_71 rfl rfl
      replace H := i_icst (x := 1) (q := 13) H I_X8_nameHere_12 (by decide) rfl
      have W := i_ic_ne (t := 118) (q := 16) H I_X8_nameHere_13 (by decide) rfl
      clear H
      rcases W with ⟨c_13, H⟩ | ⟨c_13, H⟩
      · skip
        replace H := i_bip (x := (-4)) (q := 120) H I_X8_nameHere_118 (by decide) rfl
        obtain ⟨hr, hh⟩ := i_ir H I_X8_nameHere_120
        exact absurd ht c_13
      · skip
        replace H := i_aln (q := 17) H I_X8_nameHere_16 rfl rfl
        replace H := i_gfi (q := 20) H I_X8_nameHere_17 G_8_75 cn_X8_nameHere LY_71 rfl rfl
        replace H := i_aln (q := 21) H I_X8_nameHere_20 rfl rfl
        replace H := i_gfi (q := 24) H I_X8_nameHere_21 G_8_66 cn_X8_nameHere LY_71 rfl rfl
        replace H := i_isub (q := 25) H I_X8_nameHere_24 rfl
        replace H := i_aln (q := 26) H I_X8_nameHere_25 rfl rfl
        replace H := i_gfr (q := 29) H I_X8_nameHere_26 G_8_22 cn_X8_nameHere LY_71 rfl rfl
        replace H := i_iln (q := 30) H I_X8_nameHere_29 rfl rfl
        replace H := i_icst (x := 1) (q := 31) H I_X8_nameHere_30 (by decide) rfl
        replace H := i_iadd (q := 32) H I_X8_nameHere_31 rfl
        have W := i_ia (q := 33) H I_X8_nameHere_32 LY_76 rfl
        clear H
        obtain ⟨i_32, bi_32, ei_32, H⟩ := W
        replace H := i_aln (q := 34) H I_X8_nameHere_33 rfl rfl
        replace H := i_gfr (q := 37) H I_X8_nameHere_34 G_8_22 cn_X8_nameHere LY_71 rfl rfl
        replace H := i_iln (q := 38) H I_X8_nameHere_37 rfl rfl
        have W := i_ia (q := 39) H I_X8_nameHere_38 LY_76 rfl
        clear H
        obtain ⟨i_38, bi_38, ei_38, H⟩ := W
        replace H := i_isub (q := 40) H I_X8_nameHere_39 rfl
        have W := i_ic_ne (t := 47) (q := 43) H I_X8_nameHere_40 (by decide) rfl
        clear H
        rcases W with ⟨c_40, H⟩ | ⟨c_40, H⟩
        · skip
          replace H := i_icst (x := 0) (q := 48) H I_X8_nameHere_47 (by decide) rfl
          replace H := i_isn (q := 49) H I_X8_nameHere_48 rfl rfl
          replace H := i_icst (x := 0) (q := 50) H I_X8_nameHere_49 (by decide) rfl
          replace H := i_isn (q := 51) H I_X8_nameHere_50 rfl rfl
          exfalso
          exact absurd ((zofn_lt (j := 7) (by omega) (by decide)).mp c_5) (by omega)
        · skip
          replace H := i_icst (x := 1) (q := 44) H I_X8_nameHere_43 (by decide) rfl
          replace H := i_goto (q := 48) H I_X8_nameHere_44 (by decide)
          replace H := i_isn (q := 49) H I_X8_nameHere_48 rfl rfl
          replace H := i_icst (x := 0) (q := 50) H I_X8_nameHere_49 (by decide) rfl
          replace H := i_isn (q := 51) H I_X8_nameHere_50 rfl rfl
          exfalso
          exact absurd ((zofn_lt (j := 7) (by omega) (by decide)).mp c_5) (by omega)
  | succ j ih =>
    intro w d r h' hj H
    have hw7 : ¬ w = 7 := by omega
    replace H := i_iln (q := 3) H I_X8_nameHere_2 rfl rfl
    replace H := i_bip (x := 7) (q := 5) H I_X8_nameHere_3 (by decide) rfl
    have W := i_ic_ge (t := 118) (q := 8) H I_X8_nameHere_5 (by decide) rfl
    clear H
    rcases W with ⟨c_5, H⟩ | ⟨c_5, H⟩
    · skip
      replace H := i_bip (x := (-4)) (q := 120) H I_X8_nameHere_118 (by decide) rfl
      obtain ⟨hr, hh⟩ := i_ir H I_X8_nameHere_120
      exfalso
      exact c_5 ((zofn_lt (j := 7) (by omega) (by decide)).mpr (by omega))
    · skip
      replace H := i_aln (q := 9) H I_X8_nameHere_8 rfl rfl
      replace H := i_gfi (q := 12) H I_X8_nameHere_9 G_8_72 cn_X8_nameHere LY_71 rfl rfl
      replace H := i_icst (x := 1) (q := 13) H I_X8_nameHere_12 (by decide) rfl
      have W := i_ic_ne (t := 118) (q := 16) H I_X8_nameHere_13 (by decide) rfl
      clear H
      rcases W with ⟨c_13, H⟩ | ⟨c_13, H⟩
      · skip
        replace H := i_bip (x := (-4)) (q := 120) H I_X8_nameHere_118 (by decide) rfl
        obtain ⟨hr, hh⟩ := i_ir H I_X8_nameHere_120
        exact absurd ht c_13
      · skip
        replace H := i_aln (q := 17) H I_X8_nameHere_16 rfl rfl
        replace H := i_gfi (q := 20) H I_X8_nameHere_17 G_8_75 cn_X8_nameHere LY_71 rfl rfl
        replace H := i_aln (q := 21) H I_X8_nameHere_20 rfl rfl
        replace H := i_gfi (q := 24) H I_X8_nameHere_21 G_8_66 cn_X8_nameHere LY_71 rfl rfl
        replace H := i_isub (q := 25) H I_X8_nameHere_24 rfl
        replace H := i_aln (q := 26) H I_X8_nameHere_25 rfl rfl
        replace H := i_gfr (q := 29) H I_X8_nameHere_26 G_8_22 cn_X8_nameHere LY_71 rfl rfl
        replace H := i_iln (q := 30) H I_X8_nameHere_29 rfl rfl
        replace H := i_icst (x := 1) (q := 31) H I_X8_nameHere_30 (by decide) rfl
        replace H := i_iadd (q := 32) H I_X8_nameHere_31 rfl
        have W := i_ia (q := 33) H I_X8_nameHere_32 LY_76 rfl
        clear H
        obtain ⟨i_32, bi_32, ei_32, H⟩ := W
        replace H := i_aln (q := 34) H I_X8_nameHere_33 rfl rfl
        replace H := i_gfr (q := 37) H I_X8_nameHere_34 G_8_22 cn_X8_nameHere LY_71 rfl rfl
        replace H := i_iln (q := 38) H I_X8_nameHere_37 rfl rfl
        have W := i_ia (q := 39) H I_X8_nameHere_38 LY_76 rfl
        clear H
        obtain ⟨i_38, bi_38, ei_38, H⟩ := W
        replace H := i_isub (q := 40) H I_X8_nameHere_39 rfl
        have W := i_ic_ne (t := 47) (q := 43) H I_X8_nameHere_40 (by decide) rfl
        clear H
        rcases W with ⟨c_40, H⟩ | ⟨c_40, H⟩
        · skip
          replace H := i_icst (x := 0) (q := 48) H I_X8_nameHere_47 (by decide) rfl
          replace H := i_isn (q := 49) H I_X8_nameHere_48 rfl rfl
          replace H := i_icst (x := 0) (q := 50) H I_X8_nameHere_49 (by decide) rfl
          replace H := i_isn (q := 51) H I_X8_nameHere_50 rfl rfl
          have hw : w < 7 := (zofn_lt (j := 7) (by omega) (by decide)).mp c_5
          have hc2 := zcut_2 w hw
          have h6 := zlen_6 w hw
          rw [zofn_1] at ei_32
          have e1 : i_32 = w + 1 := zofn ei_32.symm (by omega) (by omega)
          subst e1
          have e2 : w = i_38 := zofn ei_38 (by omega) (by omega)
          subst e2
          rw [hsub, hT.1 (w + 1) (by omega), hT.1 w (by omega), ← zofn_sub (by rw [zcut_1 w hw]; omega), show zcut (w + 1) - zcut w = zlen.getD w 0 by rw [zcut_1 w hw]; omega] at c_40
          have hl : ¬ e - s = zlen.getD w 0 := fun q => c_40 (by rw [q])
          have hz : zmat (m 75) s e w = false := by rw [zmat, decide_eq_false hl, Bool.false_and]
          replace H := i_iln (q := 52) H I_X8_nameHere_51 rfl rfl
          have W := i_if_eq (t := 106) (q := 55) H I_X8_nameHere_52 (by decide) rfl
          clear H
          rcases W with ⟨c_52, H⟩ | ⟨c_52, H⟩
          · skip
            replace H := i_iln (q := 107) H I_X8_nameHere_106 rfl rfl
            have W := i_if_eq (t := 112) (q := 110) H I_X8_nameHere_107 (by decide) rfl
            clear H
            rcases W with ⟨c_107, H⟩ | ⟨c_107, H⟩
            · skip
              replace H := i_inc (q := 115) H I_X8_nameHere_112 rfl rfl rfl
              replace H := i_goto (q := 2) H I_X8_nameHere_115 (by decide)
              replace H := i_w [true, true, false, false] H
              replace H : zE none d zm_X8_nameHere 2 [.ref 71, .int (Int32.ofNat (w + 1)), .null, .null] [] m r h' := by rw [← zofn_s]; exact H
              obtain ⟨g1, g2⟩ := ih (w + 1) d r h' (by omega) H
              refine ⟨g1.trans ?_, g2⟩
              simp [zwf, hz]
            · skip
              replace H := i_iln (q := 111) H I_X8_nameHere_110 rfl rfl
              obtain ⟨hr, hh⟩ := i_ir H I_X8_nameHere_111
              exact absurd rfl c_107
          · skip
            exact absurd rfl c_52
        · skip
          replace H := i_icst (x := 1) (q := 44) H I_X8_nameHere_43 (by decide) rfl
          replace H := i_goto (q := 48) H I_X8_nameHere_44 (by decide)
          replace H := i_isn (q := 49) H I_X8_nameHere_48 rfl rfl
          replace H := i_icst (x := 0) (q := 50) H I_X8_nameHere_49 (by decide) rfl
          replace H := i_isn (q := 51) H I_X8_nameHere_50 rfl rfl
          have hw : w < 7 := (zofn_lt (j := 7) (by omega) (by decide)).mp c_5
          have hc2 := zcut_2 w hw
          have h6 := zlen_6 w hw
          rw [zofn_1] at ei_32
          have e1 : i_32 = w + 1 := zofn ei_32.symm (by omega) (by omega)
          subst e1
          have e2 : w = i_38 := zofn ei_38 (by omega) (by omega)
          subst e2
          rw [hsub, hT.1 (w + 1) (by omega), hT.1 w (by omega), ← zofn_sub (by rw [zcut_1 w hw]; omega), show zcut (w + 1) - zcut w = zlen.getD w 0 by rw [zcut_1 w hw]; omega] at c_40
          have hl : e - s = zlen.getD w 0 := zofn c_40 (by omega) (by omega)
          have H2 := nh_in hT hw hs he hse hen hn hn2 hl (e - s) 0 d r h' (by omega) H
          clear H
          cases hzz : zal (m 75) s w 0 (e - s) with
          | true =>
            rw [hzz] at H2
            replace H : zE none d zm_X8_nameHere 106 [.ref 71, .int (Int32.ofNat w), .int 1, .null] [] m r h' := H2
            have hz : zmat (m 75) s e w = true := by rw [zmat, decide_eq_true hl, Bool.true_and, ← hl]; exact hzz
            replace H := i_iln (q := 107) H I_X8_nameHere_106 rfl rfl
            have W := i_if_eq (t := 112) (q := 110) H I_X8_nameHere_107 (by decide) rfl
            clear H
            rcases W with ⟨c_107, H⟩ | ⟨c_107, H⟩
            · skip
              replace H := i_inc (q := 115) H I_X8_nameHere_112 rfl rfl rfl
              replace H := i_goto (q := 2) H I_X8_nameHere_115 (by decide)
              exact absurd c_107 (by decide)
            · skip
              replace H := i_iln (q := 111) H I_X8_nameHere_110 rfl rfl
              obtain ⟨hr, hh⟩ := i_ir H I_X8_nameHere_111
              exact ⟨hr.trans (by simp [zwf, hz, znm, hw7]), hh⟩
          | false =>
            rw [hzz] at H2
            replace H : zE none d zm_X8_nameHere 106 [.ref 71, .int (Int32.ofNat w), .int 0, .null] [] m r h' := H2
            have hz : zmat (m 75) s e w = false := by rw [zmat, decide_eq_true hl, Bool.true_and, ← hl]; exact hzz
            replace H := i_iln (q := 107) H I_X8_nameHere_106 rfl rfl
            have W := i_if_eq (t := 112) (q := 110) H I_X8_nameHere_107 (by decide) rfl
            clear H
            rcases W with ⟨c_107, H⟩ | ⟨c_107, H⟩
            · skip
              replace H := i_inc (q := 115) H I_X8_nameHere_112 rfl rfl rfl
              replace H := i_goto (q := 2) H I_X8_nameHere_115 (by decide)
              replace H := i_w [true, true, false, false] H
              replace H : zE none d zm_X8_nameHere 2 [.ref 71, .int (Int32.ofNat (w + 1)), .null, .null] [] m r h' := by rw [← zofn_s]; exact H
              obtain ⟨g1, g2⟩ := ih (w + 1) d r h' (by omega) H
              refine ⟨g1.trans ?_, g2⟩
              simp [zwf, hz]
            · skip
              replace H := i_iln (q := 111) H I_X8_nameHere_110 rfl rfl
              obtain ⟨hr, hh⟩ := i_ir H I_X8_nameHere_111
              exact absurd rfl c_107
theorem t_X8_nameHere {d : Nat} {m : zM} {r : Option Value} {h' : zHp} {s e n : Nat} (hT : zTab m) (ht : m 71 14 = 1) (hs : m 71 13 = Int32.ofNat s) (he : m 71 12 = Int32.ofNat e) (hse : s ≤ e) (hen : e ≤ n) (hn : m 71 8 = Int32.ofNat n) (hn2 : n ≤ 160) (H : zE none d zm_X8_nameHere 0 [.ref 71, .null, .null, .null] [] m r h') : r = some (.int (znm (zword (m 75) s e))) ∧ h' = zhp m := by
  replace H := i_icst (x := 0) (q := 1) H I_X8_nameHere_0 (by decide) rfl
  replace H := i_isn (q := 2) H I_X8_nameHere_1 rfl rfl
  exact nh_loop hT ht hs he hse hen hn hn2 7 0 d r h' rfl H
end
section
/-! the class's lines -/
theorem It_X0_join : zm_X0_join.2.2.2.2.2 = zt_X0_join := by
  unfold zm_X0_join
  rfl
theorem It_X2_fail : zm_X2_fail.2.2.2.2.2 = zt_X2_fail := by
  unfold zm_X2_fail
  rfl
theorem It_X2_failToken : zm_X2_failToken.2.2.2.2.2 = zt_X2_failToken := by
  unfold zm_X2_failToken
  rfl
theorem It_X2_wantsNumber : zm_X2_wantsNumber.2.2.2.2.2 = zt_X2_wantsNumber := by
  unfold zm_X2_wantsNumber
  rfl
theorem It_X2_wantsStop : zm_X2_wantsStop.2.2.2.2.2 = zt_X2_wantsStop := by
  unfold zm_X2_wantsStop
  rfl
theorem I_X0_join_0 : zin zm_X0_join.2.2.2.2.2 0 = some (.aload_n 0, 1) := by rw [It_X0_join]; rfl
theorem I_X0_join_1 : zin zm_X0_join.2.2.2.2.2 1 = some (.getfield 11, 3) := by rw [It_X0_join]; rfl
theorem I_X0_join_4 : zin zm_X0_join.2.2.2.2.2 4 = some (.aload_n 0, 1) := by rw [It_X0_join]; rfl
theorem I_X0_join_5 : zin zm_X0_join.2.2.2.2.2 5 = some (.getfield 26, 3) := by rw [It_X0_join]; rfl
theorem I_X0_join_8 : zin zm_X0_join.2.2.2.2.2 8 = some (.aaload, 1) := by rw [It_X0_join]; rfl
theorem I_X0_join_9 : zin zm_X0_join.2.2.2.2.2 9 = some (.astore 4, 2) := by rw [It_X0_join]; rfl
theorem I_X0_join_11 : zin zm_X0_join.2.2.2.2.2 11 = some (.aload 4, 2) := by rw [It_X0_join]; rfl
theorem I_X0_join_13 : zin zm_X0_join.2.2.2.2.2 13 = some (.iload_n 1, 1) := by rw [It_X0_join]; rfl
theorem I_X0_join_14 : zin zm_X0_join.2.2.2.2.2 14 = some (.putfield 39, 3) := by rw [It_X0_join]; rfl
theorem I_X0_join_17 : zin zm_X0_join.2.2.2.2.2 17 = some (.aload 4, 2) := by rw [It_X0_join]; rfl
theorem I_X0_join_19 : zin zm_X0_join.2.2.2.2.2 19 = some (.iload_n 2, 1) := by rw [It_X0_join]; rfl
theorem I_X0_join_20 : zin zm_X0_join.2.2.2.2.2 20 = some (.putfield 42, 3) := by rw [It_X0_join]; rfl
theorem I_X0_join_23 : zin zm_X0_join.2.2.2.2.2 23 = some (.aload 4, 2) := by rw [It_X0_join]; rfl
theorem I_X0_join_25 : zin zm_X0_join.2.2.2.2.2 25 = some (.iload_n 3, 1) := by rw [It_X0_join]; rfl
theorem I_X0_join_26 : zin zm_X0_join.2.2.2.2.2 26 = some (.putfield 45, 3) := by rw [It_X0_join]; rfl
theorem I_X0_join_29 : zin zm_X0_join.2.2.2.2.2 29 = some (.aload 4, 2) := by rw [It_X0_join]; rfl
theorem I_X0_join_31 : zin zm_X0_join.2.2.2.2.2 31 = some (.iconst 0, 1) := by rw [It_X0_join]; rfl
theorem I_X0_join_32 : zin zm_X0_join.2.2.2.2.2 32 = some (.putfield 48, 3) := by rw [It_X0_join]; rfl
theorem I_X0_join_35 : zin zm_X0_join.2.2.2.2.2 35 = some (.aload_n 0, 1) := by rw [It_X0_join]; rfl
theorem I_X0_join_36 : zin zm_X0_join.2.2.2.2.2 36 = some (.dup, 1) := by rw [It_X0_join]; rfl
theorem I_X0_join_37 : zin zm_X0_join.2.2.2.2.2 37 = some (.getfield 26, 3) := by rw [It_X0_join]; rfl
theorem I_X0_join_40 : zin zm_X0_join.2.2.2.2.2 40 = some (.iconst 1, 1) := by rw [It_X0_join]; rfl
theorem I_X0_join_41 : zin zm_X0_join.2.2.2.2.2 41 = some (.iadd, 1) := by rw [It_X0_join]; rfl
theorem I_X0_join_42 : zin zm_X0_join.2.2.2.2.2 42 = some (.putfield 26, 3) := by rw [It_X0_join]; rfl
theorem I_X0_join_45 : zin zm_X0_join.2.2.2.2.2 45 = some (.return_, 1) := by rw [It_X0_join]; rfl
theorem I_X2_fail_0 : zin zm_X2_fail.2.2.2.2.2 0 = some (.aload_n 0, 1) := by rw [It_X2_fail]; rfl
theorem I_X2_fail_1 : zin zm_X2_fail.2.2.2.2.2 1 = some (.iload_n 1, 1) := by rw [It_X2_fail]; rfl
theorem I_X2_fail_2 : zin zm_X2_fail.2.2.2.2.2 2 = some (.putfield 32, 3) := by rw [It_X2_fail]; rfl
theorem I_X2_fail_5 : zin zm_X2_fail.2.2.2.2.2 5 = some (.aload_n 0, 1) := by rw [It_X2_fail]; rfl
theorem I_X2_fail_6 : zin zm_X2_fail.2.2.2.2.2 6 = some (.iload_n 2, 1) := by rw [It_X2_fail]; rfl
theorem I_X2_fail_7 : zin zm_X2_fail.2.2.2.2.2 7 = some (.putfield 35, 3) := by rw [It_X2_fail]; rfl
theorem I_X2_fail_10 : zin zm_X2_fail.2.2.2.2.2 10 = some (.iconst 0, 1) := by rw [It_X2_fail]; rfl
theorem I_X2_fail_11 : zin zm_X2_fail.2.2.2.2.2 11 = some (.ireturn, 1) := by rw [It_X2_fail]; rfl
theorem I_X2_failToken_0 : zin zm_X2_failToken.2.2.2.2.2 0 = some (.aload_n 0, 1) := by rw [It_X2_failToken]; rfl
theorem I_X2_failToken_1 : zin zm_X2_failToken.2.2.2.2.2 1 = some (.aload_n 0, 1) := by rw [It_X2_failToken]; rfl
theorem I_X2_failToken_2 : zin zm_X2_failToken.2.2.2.2.2 2 = some (.getfield 51, 3) := by rw [It_X2_failToken]; rfl
theorem I_X2_failToken_5 : zin zm_X2_failToken.2.2.2.2.2 5 = some (.iconst 4, 1) := by rw [It_X2_failToken]; rfl
theorem I_X2_failToken_6 : zin zm_X2_failToken.2.2.2.2.2 6 = some (.if_icmp .ne 7, 3) := by rw [It_X2_failToken]; rfl
theorem I_X2_failToken_9 : zin zm_X2_failToken.2.2.2.2.2 9 = some (.iconst 1, 1) := by rw [It_X2_failToken]; rfl
theorem I_X2_failToken_10 : zin zm_X2_failToken.2.2.2.2.2 10 = some (.goto 4, 3) := by rw [It_X2_failToken]; rfl
theorem I_X2_failToken_13 : zin zm_X2_failToken.2.2.2.2.2 13 = some (.iconst 2, 1) := by rw [It_X2_failToken]; rfl
theorem I_X2_failToken_14 : zin zm_X2_failToken.2.2.2.2.2 14 = some (.aload_n 0, 1) := by rw [It_X2_failToken]; rfl
theorem I_X2_failToken_15 : zin zm_X2_failToken.2.2.2.2.2 15 = some (.getfield 102, 3) := by rw [It_X2_failToken]; rfl
theorem I_X2_failToken_18 : zin zm_X2_failToken.2.2.2.2.2 18 = some (.invokevirtual 74, 3) := by rw [It_X2_failToken]; rfl
theorem I_X2_failToken_21 : zin zm_X2_failToken.2.2.2.2.2 21 = some (.ireturn, 1) := by rw [It_X2_failToken]; rfl
theorem I_X2_wantsNumber_0 : zin zm_X2_wantsNumber.2.2.2.2.2 0 = some (.aload_n 0, 1) := by rw [It_X2_wantsNumber]; rfl
theorem I_X2_wantsNumber_1 : zin zm_X2_wantsNumber.2.2.2.2.2 1 = some (.invokevirtual 48, 3) := by rw [It_X2_wantsNumber]; rfl
theorem I_X2_wantsNumber_4 : zin zm_X2_wantsNumber.2.2.2.2.2 4 = some (.aload_n 0, 1) := by rw [It_X2_wantsNumber]; rfl
theorem I_X2_wantsNumber_5 : zin zm_X2_wantsNumber.2.2.2.2.2 5 = some (.getfield 51, 3) := by rw [It_X2_wantsNumber]; rfl
theorem I_X2_wantsNumber_8 : zin zm_X2_wantsNumber.2.2.2.2.2 8 = some (.iconst 2, 1) := by rw [It_X2_wantsNumber]; rfl
theorem I_X2_wantsNumber_9 : zin zm_X2_wantsNumber.2.2.2.2.2 9 = some (.if_icmp .eq 8, 3) := by rw [It_X2_wantsNumber]; rfl
theorem I_X2_wantsNumber_12 : zin zm_X2_wantsNumber.2.2.2.2.2 12 = some (.aload_n 0, 1) := by rw [It_X2_wantsNumber]; rfl
theorem I_X2_wantsNumber_13 : zin zm_X2_wantsNumber.2.2.2.2.2 13 = some (.invokevirtual 82, 3) := by rw [It_X2_wantsNumber]; rfl
theorem I_X2_wantsNumber_16 : zin zm_X2_wantsNumber.2.2.2.2.2 16 = some (.ireturn, 1) := by rw [It_X2_wantsNumber]; rfl
theorem I_X2_wantsNumber_17 : zin zm_X2_wantsNumber.2.2.2.2.2 17 = some (.aload_n 0, 1) := by rw [It_X2_wantsNumber]; rfl
theorem I_X2_wantsNumber_18 : zin zm_X2_wantsNumber.2.2.2.2.2 18 = some (.getfield 105, 3) := by rw [It_X2_wantsNumber]; rfl
theorem I_X2_wantsNumber_21 : zin zm_X2_wantsNumber.2.2.2.2.2 21 = some (.iload_n 1, 1) := by rw [It_X2_wantsNumber]; rfl
theorem I_X2_wantsNumber_22 : zin zm_X2_wantsNumber.2.2.2.2.2 22 = some (.if_icmp .le 15, 3) := by rw [It_X2_wantsNumber]; rfl
theorem I_X2_wantsNumber_25 : zin zm_X2_wantsNumber.2.2.2.2.2 25 = some (.aload_n 0, 1) := by rw [It_X2_wantsNumber]; rfl
theorem I_X2_wantsNumber_26 : zin zm_X2_wantsNumber.2.2.2.2.2 26 = some (.iconst 3, 1) := by rw [It_X2_wantsNumber]; rfl
theorem I_X2_wantsNumber_27 : zin zm_X2_wantsNumber.2.2.2.2.2 27 = some (.aload_n 0, 1) := by rw [It_X2_wantsNumber]; rfl
theorem I_X2_wantsNumber_28 : zin zm_X2_wantsNumber.2.2.2.2.2 28 = some (.getfield 102, 3) := by rw [It_X2_wantsNumber]; rfl
theorem I_X2_wantsNumber_31 : zin zm_X2_wantsNumber.2.2.2.2.2 31 = some (.invokevirtual 74, 3) := by rw [It_X2_wantsNumber]; rfl
theorem I_X2_wantsNumber_34 : zin zm_X2_wantsNumber.2.2.2.2.2 34 = some (.ifCond .eq 7, 3) := by rw [It_X2_wantsNumber]; rfl
theorem I_X2_wantsNumber_37 : zin zm_X2_wantsNumber.2.2.2.2.2 37 = some (.iconst 1, 1) := by rw [It_X2_wantsNumber]; rfl
theorem I_X2_wantsNumber_38 : zin zm_X2_wantsNumber.2.2.2.2.2 38 = some (.goto 4, 3) := by rw [It_X2_wantsNumber]; rfl
theorem I_X2_wantsNumber_41 : zin zm_X2_wantsNumber.2.2.2.2.2 41 = some (.iconst 0, 1) := by rw [It_X2_wantsNumber]; rfl
theorem I_X2_wantsNumber_42 : zin zm_X2_wantsNumber.2.2.2.2.2 42 = some (.ireturn, 1) := by rw [It_X2_wantsNumber]; rfl
theorem I_X2_wantsStop_0 : zin zm_X2_wantsStop.2.2.2.2.2 0 = some (.aload_n 0, 1) := by rw [It_X2_wantsStop]; rfl
theorem I_X2_wantsStop_1 : zin zm_X2_wantsStop.2.2.2.2.2 1 = some (.invokevirtual 48, 3) := by rw [It_X2_wantsStop]; rfl
theorem I_X2_wantsStop_4 : zin zm_X2_wantsStop.2.2.2.2.2 4 = some (.aload_n 0, 1) := by rw [It_X2_wantsStop]; rfl
theorem I_X2_wantsStop_5 : zin zm_X2_wantsStop.2.2.2.2.2 5 = some (.getfield 51, 3) := by rw [It_X2_wantsStop]; rfl
theorem I_X2_wantsStop_8 : zin zm_X2_wantsStop.2.2.2.2.2 8 = some (.iconst 3, 1) := by rw [It_X2_wantsStop]; rfl
theorem I_X2_wantsStop_9 : zin zm_X2_wantsStop.2.2.2.2.2 9 = some (.if_icmp .eq 10, 3) := by rw [It_X2_wantsStop]; rfl
theorem I_X2_wantsStop_12 : zin zm_X2_wantsStop.2.2.2.2.2 12 = some (.aload_n 0, 1) := by rw [It_X2_wantsStop]; rfl
theorem I_X2_wantsStop_13 : zin zm_X2_wantsStop.2.2.2.2.2 13 = some (.invokevirtual 82, 3) := by rw [It_X2_wantsStop]; rfl
theorem I_X2_wantsStop_16 : zin zm_X2_wantsStop.2.2.2.2.2 16 = some (.ifCond .eq 7, 3) := by rw [It_X2_wantsStop]; rfl
theorem I_X2_wantsStop_19 : zin zm_X2_wantsStop.2.2.2.2.2 19 = some (.iconst 1, 1) := by rw [It_X2_wantsStop]; rfl
theorem I_X2_wantsStop_20 : zin zm_X2_wantsStop.2.2.2.2.2 20 = some (.goto 4, 3) := by rw [It_X2_wantsStop]; rfl
theorem I_X2_wantsStop_23 : zin zm_X2_wantsStop.2.2.2.2.2 23 = some (.iconst 0, 1) := by rw [It_X2_wantsStop]; rfl
theorem I_X2_wantsStop_24 : zin zm_X2_wantsStop.2.2.2.2.2 24 = some (.ireturn, 1) := by rw [It_X2_wantsStop]; rfl
theorem G_0_39 : zlk zfls 0 39 = some (1, 0, 96) := rfl
theorem G_0_42 : zlk zfls 0 42 = some (1, 1, 99) := rfl
theorem G_0_45 : zlk zfls 0 45 = some (1, 2, 102) := rfl
theorem G_0_48 : zlk zfls 0 48 = some (1, 3, 105) := rfl
theorem G_2_32 : zlk zfls 2 32 = some (2, 4, 159) := rfl
theorem G_2_35 : zlk zfls 2 35 = some (2, 5, 161) := rfl
theorem K_2_48 : zlk zmls 2 48 = some (0, 37, 0, 347) := rfl
theorem K_2_74 : zlk zmls 2 74 = some (0, 27, 2, 361) := rfl
theorem K_2_82 : zlk zmls 2 82 = some (0, 30, 0, 373) := rfl
theorem Zm_27 : zms[27]? = some zm_X2_fail := rfl
theorem Zm_30 : zms[30]? = some zm_X2_failToken := rfl
theorem Zm_37 : zms[37]? = some zm_X2_next := rfl
theorem cl_X0_join : zm_X0_join.2.2.2.2.1 = 0 := by
  unfold zm_X0_join
  rfl
theorem cn_X0_join : zm_X0_join.2.2.2.2.1 ≠ 12 := by
  rw [cl_X0_join]
  decide
theorem cn2_X0_join : zm_X0_join.2.2.2.2.1 ≠ 2 := by
  rw [cl_X0_join]
  decide
theorem cl_X2_fail : zm_X2_fail.2.2.2.2.1 = 2 := by
  unfold zm_X2_fail
  rfl
theorem cn_X2_fail : zm_X2_fail.2.2.2.2.1 ≠ 12 := by
  rw [cl_X2_fail]
  decide
theorem cl_X2_failToken : zm_X2_failToken.2.2.2.2.1 = 2 := by
  unfold zm_X2_failToken
  rfl
theorem cn_X2_failToken : zm_X2_failToken.2.2.2.2.1 ≠ 12 := by
  rw [cl_X2_failToken]
  decide
theorem cl_X2_wantsNumber : zm_X2_wantsNumber.2.2.2.2.1 = 2 := by
  unfold zm_X2_wantsNumber
  rfl
theorem cn_X2_wantsNumber : zm_X2_wantsNumber.2.2.2.2.1 ≠ 12 := by
  rw [cl_X2_wantsNumber]
  decide
theorem cl_X2_wantsStop : zm_X2_wantsStop.2.2.2.2.1 = 2 := by
  unfold zm_X2_wantsStop
  rfl
theorem cn_X2_wantsStop : zm_X2_wantsStop.2.2.2.2.1 ≠ 12 := by
  rw [cl_X2_wantsStop]
  decide
theorem zif1 {P : Prop} {_ : Decidable P} (h : ¬ (if P then (1 : Int32) else 0) = 0) : P := by
  by_cases hp : P
  · exact hp
  · rw [if_neg hp] at h
    exact absurd rfl h
theorem zif0 {P : Prop} {_ : Decidable P} (h : (if P then (1 : Int32) else 0) = 0) : ¬ P := fun hp => by
  rw [if_pos hp] at h
  exact absurd h (by decide)
theorem tS_ge {t : Nat → Int32} {n p : Nat} : p ≤ tS t n p := tE_ge
theorem tS_le {t : Nat → Int32} {n p : Nat} (h : p ≤ n) : tS t n p ≤ n := tE_le h
theorem tNs_ge {t : Nat → Int32} {n s : Nat} : s ≤ tNs t n s := by
  unfold tNs
  split
  · omega
  · split
    · exact Nat.le_trans (Nat.le_succ s) tE_ge
    · split
      · exact Nat.le_trans (Nat.le_succ s) tE_ge
      · omega
theorem tNs_gt {t : Nat → Int32} {n s : Nat} (h : ¬ tKs t n s = 0) : s + 1 ≤ tNs t n s := by
  unfold tNs
  unfold tKs at h
  split
  · rename_i hn
    rw [if_pos hn] at h
    exact absurd rfl h
  · split
    · exact tE_ge
    · split
      · exact tE_ge
      · omega
theorem tNs_le {t : Nat → Int32} {n s : Nat} (h : s ≤ n) : tNs t n s ≤ n := by
  unfold tNs
  split
  · omega
  · split
    · exact tE_le (by omega)
    · split
      · exact tE_le (by omega)
      · omega
theorem tN_le {t : Nat → Int32} {n p : Nat} (h : p ≤ n) : tN t n p ≤ n := tNs_le (tS_le h)
theorem tN_ge {t : Nat → Int32} {n p : Nat} : tS t n p ≤ tN t n p := tNs_ge
theorem tN_gt {t : Nat → Int32} {n p : Nat} (h : ¬ tK t n p = 0) : p + 1 ≤ tN t n p := Nat.le_trans (Nat.add_le_add_right tS_ge 1) (tNs_gt h)
def zfk (k : Int32) : Int32 := if k = 4 then 1 else 2
/-- the fault where a number up to most was wanted -/
def zfn (t : Nat → Int32) (n p : Nat) : Int32 × Nat := (if tK t n p = 2 then 3 else zfk (tK t n p), tS t n p)
def zft (t : Nat → Int32) (n p : Nat) : Int32 × Nat := (zfk (tK t n p), tS t n p)
/-- a number is there, and no more than most -/
def zNm (t : Nat → Int32) (n p : Nat) (most : Int32) : Bool := decide (tK t n p = 2) && !decide (most < tV t n p)
/-- the tape's length, the place -/
def zPl (m : zM) (n p : Nat) : Prop := m 1 2 = Int32.ofNat n ∧ n ≤ 160 ∧ m 1 6 = Int32.ofNat p ∧ p ≤ n
def zf49 (m m1 : zM) : Prop := ∀ a b, ¬ (a = 1 ∧ 4 ≤ b ∧ b ≤ 9) → m1 a b = m a b
theorem zPl_s {m m1 : zM} {n p q : Nat} (h : zPl m n p) (hf : zf49 m m1) (hq : m1 1 6 = Int32.ofNat q) (hq2 : q ≤ n) : zPl m1 n q := ⟨by rw [hf 1 2 (by omega)]; exact h.1, h.2.1, hq, hq2⟩
theorem zf49_t {m m1 m2 : zM} (h1 : zf49 m m1) (h2 : zf49 m1 m2) : zf49 m m2 := fun a b hab => (h2 a b hab).trans (h1 a b hab)
theorem zf49_2 {m m1 : zM} (h : zf49 m m1) : m1 2 = m 2 := by funext b; exact h 2 b (by omega)
def gset (g : Nat → Int32) (k : Nat) (v : Int32) : Nat → Int32 := fun i => if i = k then v else g i
theorem gset_s (g : Nat → Int32) (k : Nat) (v : Int32) : gset g k v k = v := by simp [gset]
theorem gset_n {g : Nat → Int32} {k i : Nat} {v : Int32} (h : ¬ i = k) : gset g k v i = g i := by simp [gset, h]
theorem t_X2_fail {d : Nat} {m : zM} {r : Option Value} {h' : zHp} {a b : Int32}  (H : zE none d zm_X2_fail 0 [.ref 1, .int a, .int b] [] m r h') : r = some (.int 0) ∧ h' = zhp (zup (zup m 1 4 a) 1 5 b) := by
  replace H := i_aln (q := 1) H I_X2_fail_0 rfl rfl
  replace H := i_iln (q := 2) H I_X2_fail_1 rfl rfl
  replace H := i_pf (q := 5) H I_X2_fail_2 G_2_32 cn_X2_fail LY_1 rfl rfl
  replace H := i_aln (q := 6) H I_X2_fail_5 rfl rfl
  replace H := i_iln (q := 7) H I_X2_fail_6 rfl rfl
  replace H := i_pf (q := 10) H I_X2_fail_7 G_2_35 cn_X2_fail LY_1 rfl rfl
  replace H := i_icst (x := 0) (q := 11) H I_X2_fail_10 (by decide) rfl
  obtain ⟨hr, hh⟩ := i_ir H I_X2_fail_11
  exact ⟨hr, hh⟩
theorem t_X2_failToken {d : Nat} {m : zM} {r : Option Value} {h' : zHp}   (H : zE none d zm_X2_failToken 0 [.ref 1] [] m r h') : r = some (.int 0) ∧ h' = zhp (zup (zup m 1 4 (zfk (m 1 7))) 1 5 (m 1 8)) := by
  replace H := i_aln (q := 1) H I_X2_failToken_0 rfl rfl
  replace H := i_aln (q := 2) H I_X2_failToken_1 rfl rfl
  replace H := i_gfi (q := 5) H I_X2_failToken_2 G_2_51 cn_X2_failToken LY_1 rfl rfl
  replace H := i_icst (x := 4) (q := 6) H I_X2_failToken_5 (by decide) rfl
  have W := i_ic_ne (t := 13) (q := 9) H I_X2_failToken_6 (by decide) rfl
  clear H
  rcases W with ⟨c_6, H⟩ | ⟨c_6, H⟩
  · skip
    replace H := i_icst (x := 2) (q := 14) H I_X2_failToken_13 (by decide) rfl
    replace H := i_aln (q := 15) H I_X2_failToken_14 rfl rfl
    replace H := i_gfi (q := 18) H I_X2_failToken_15 G_2_102 cn_X2_failToken LY_1 rfl rfl
    have W := i_cv2 0 (q := 21) H I_X2_failToken_18 K_2_74 Zm_27 rfl rfl
    clear H
    obtain ⟨r1, h1, Hc, K1, K2⟩ := W
    obtain ⟨e1, e2⟩ := t_X2_fail Hc
    have H := K1 _ _ e1 e2
    clear e1 e2 Hc K1 K2
    obtain ⟨hr, hh⟩ := i_ir H I_X2_failToken_21
    refine ⟨hr, hh.trans ?_⟩
    simp [zfk, *]
  · skip
    replace H := i_icst (x := 1) (q := 10) H I_X2_failToken_9 (by decide) rfl
    replace H := i_goto (q := 14) H I_X2_failToken_10 (by decide)
    replace H := i_aln (q := 15) H I_X2_failToken_14 rfl rfl
    replace H := i_gfi (q := 18) H I_X2_failToken_15 G_2_102 cn_X2_failToken LY_1 rfl rfl
    have W := i_cv2 0 (q := 21) H I_X2_failToken_18 K_2_74 Zm_27 rfl rfl
    clear H
    obtain ⟨r1, h1, Hc, K1, K2⟩ := W
    obtain ⟨e1, e2⟩ := t_X2_fail Hc
    have H := K1 _ _ e1 e2
    clear e1 e2 Hc K1 K2
    obtain ⟨hr, hh⟩ := i_ir H I_X2_failToken_21
    refine ⟨hr, hh.trans ?_⟩
    simp [zfk, *]
theorem t_X2_wantsStop {d : Nat} {m : zM} {r : Option Value} {h' : zHp} {n p : Nat} (hq : zPl m n p) (H : zE none d zm_X2_wantsStop 0 [.ref 1] [] m r h') : ∃ m1, r = some (.int (if tK (m 2) n p = 3 then 1 else 0)) ∧ h' = zhp m1 ∧ zf49 m m1 ∧ m1 1 6 = Int32.ofNat (tN (m 2) n p) ∧ (¬ tK (m 2) n p = 3 → m1 1 4 = (zft (m 2) n p).1 ∧ m1 1 5 = Int32.ofNat (zft (m 2) n p).2) ∧ (tK (m 2) n p = 3 → m1 1 4 = m 1 4) := by
  replace H := i_aln (q := 1) H I_X2_wantsStop_0 rfl rfl
  have W := i_cv0 1 (q := 4) H I_X2_wantsStop_1 K_2_48 Zm_37 rfl rfl
  clear H
  obtain ⟨r1, h1, Hc, K1, K2⟩ := W
  obtain ⟨M_1, e1, e2, F_1⟩ := t_X2_next (n := n) (p := p) hq.1 hq.2.1 hq.2.2.1 hq.2.2.2 Hc
  have H := K2 _ e1 e2
  clear e1 e2 Hc K1 K2
  replace H := i_aln (q := 5) H I_X2_wantsStop_4 rfl rfl
  replace H := i_gfi (q := 8) H I_X2_wantsStop_5 G_2_51 cn_X2_wantsStop LY_1 rfl rfl
  replace H := i_icst (x := 3) (q := 9) H I_X2_wantsStop_8 (by decide) rfl
  have W := i_ic_eq (t := 19) (q := 12) H I_X2_wantsStop_9 (by decide) rfl
  clear H
  rcases W with ⟨c_9, H⟩ | ⟨c_9, H⟩
  · skip
    replace H := i_icst (x := 1) (q := 20) H I_X2_wantsStop_19 (by decide) rfl
    replace H := i_goto (q := 24) H I_X2_wantsStop_20 (by decide)
    obtain ⟨hr, hh⟩ := i_ir H I_X2_wantsStop_24
    obtain ⟨f6, f7, f8, f9, ff⟩ := F_1
    rw [f7] at c_9
    refine ⟨_, hr.trans ?_, hh, fun a b hab => ff a b (by omega), f6, fun h => absurd c_9 h, fun _ => ff 1 4 (by omega)⟩
    rw [if_pos c_9]
  · skip
    replace H := i_aln (q := 13) H I_X2_wantsStop_12 rfl rfl
    have W := i_cv0 0 (q := 16) H I_X2_wantsStop_13 K_2_82 Zm_30 rfl rfl
    clear H
    obtain ⟨r1, h1, Hc, K1, K2⟩ := W
    obtain ⟨e1, e2⟩ := t_X2_failToken Hc
    have H := K1 _ _ e1 e2
    clear e1 e2 Hc K1 K2
    have W := i_if_eq (t := 23) (q := 19) H I_X2_wantsStop_16 (by decide) rfl
    clear H
    rcases W with ⟨c_16, H⟩ | ⟨c_16, H⟩
    · skip
      replace H := i_icst (x := 0) (q := 24) H I_X2_wantsStop_23 (by decide) rfl
      obtain ⟨hr, hh⟩ := i_ir H I_X2_wantsStop_24
      obtain ⟨f6, f7, f8, f9, ff⟩ := F_1
      rw [f7] at c_9
      rw [f7, f8] at hh
      refine ⟨_, hr.trans ?_, hh, fun a b hab => ?_, ?_, fun _ => ⟨?_, ?_⟩, fun w => absurd w c_9⟩
      · rw [if_neg c_9]
      · rw [zup_n (by omega), zup_n (by omega), ff a b (by omega)]
      · rw [zup_n (by omega), zup_n (by omega), f6]
      · rw [zup_n (by omega), zup_s]; rfl
      · rw [zup_s]; rfl
    · skip
      replace H := i_icst (x := 1) (q := 20) H I_X2_wantsStop_19 (by decide) rfl
      replace H := i_goto (q := 24) H I_X2_wantsStop_20 (by decide)
      obtain ⟨hr, hh⟩ := i_ir H I_X2_wantsStop_24
      obtain ⟨f6, f7, f8, f9, ff⟩ := F_1
      exact absurd rfl c_16
theorem t_X2_wantsNumber {d : Nat} {m : zM} {r : Option Value} {h' : zHp} {n p : Nat} {most : Int32} (hq : zPl m n p) (H : zE none d zm_X2_wantsNumber 0 [.ref 1, .int most] [] m r h') : ∃ m1, r = some (.int (if zNm (m 2) n p most = true then 1 else 0)) ∧ h' = zhp m1 ∧ zf49 m m1 ∧ m1 1 6 = Int32.ofNat (tN (m 2) n p) ∧ m1 1 8 = Int32.ofNat (tS (m 2) n p) ∧ (zNm (m 2) n p most = true → m1 1 9 = tV (m 2) n p) ∧ (¬ zNm (m 2) n p most = true → m1 1 4 = (zfn (m 2) n p).1 ∧ m1 1 5 = Int32.ofNat (zfn (m 2) n p).2) ∧ (zNm (m 2) n p most = true → m1 1 4 = m 1 4) := by
  replace H := i_aln (q := 1) H I_X2_wantsNumber_0 rfl rfl
  have W := i_cv0 1 (q := 4) H I_X2_wantsNumber_1 K_2_48 Zm_37 rfl rfl
  clear H
  obtain ⟨r1, h1, Hc, K1, K2⟩ := W
  obtain ⟨M_1, e1, e2, F_1⟩ := t_X2_next (n := n) (p := p) hq.1 hq.2.1 hq.2.2.1 hq.2.2.2 Hc
  have H := K2 _ e1 e2
  clear e1 e2 Hc K1 K2
  replace H := i_aln (q := 5) H I_X2_wantsNumber_4 rfl rfl
  replace H := i_gfi (q := 8) H I_X2_wantsNumber_5 G_2_51 cn_X2_wantsNumber LY_1 rfl rfl
  replace H := i_icst (x := 2) (q := 9) H I_X2_wantsNumber_8 (by decide) rfl
  have W := i_ic_eq (t := 17) (q := 12) H I_X2_wantsNumber_9 (by decide) rfl
  clear H
  rcases W with ⟨c_9, H⟩ | ⟨c_9, H⟩
  · skip
    replace H := i_aln (q := 18) H I_X2_wantsNumber_17 rfl rfl
    replace H := i_gfi (q := 21) H I_X2_wantsNumber_18 G_2_105 cn_X2_wantsNumber LY_1 rfl rfl
    replace H := i_iln (q := 22) H I_X2_wantsNumber_21 rfl rfl
    have W := i_ic_le (t := 37) (q := 25) H I_X2_wantsNumber_22 (by decide) rfl
    clear H
    rcases W with ⟨c_22, H⟩ | ⟨c_22, H⟩
    · skip
      replace H := i_icst (x := 1) (q := 38) H I_X2_wantsNumber_37 (by decide) rfl
      replace H := i_goto (q := 42) H I_X2_wantsNumber_38 (by decide)
      obtain ⟨hr, hh⟩ := i_ir H I_X2_wantsNumber_42
      obtain ⟨f6, f7, f8, f9, ff⟩ := F_1
      rw [f7] at c_9
      rw [f9 c_9] at c_22
      have hk : zNm (m 2) n p most = true := by simp only [zNm, c_9, c_22, decide_true, decide_false, Bool.not_false, Bool.and_self]
      refine ⟨_, hr.trans ?_, hh, fun a b hab => ff a b (by omega), f6, f8, fun _ => f9 c_9, fun w => absurd hk w, fun _ => ff 1 4 (by omega)⟩
      rw [if_pos hk]
    · skip
      replace H := i_aln (q := 26) H I_X2_wantsNumber_25 rfl rfl
      replace H := i_icst (x := 3) (q := 27) H I_X2_wantsNumber_26 (by decide) rfl
      replace H := i_aln (q := 28) H I_X2_wantsNumber_27 rfl rfl
      replace H := i_gfi (q := 31) H I_X2_wantsNumber_28 G_2_102 cn_X2_wantsNumber LY_1 rfl rfl
      have W := i_cv2 0 (q := 34) H I_X2_wantsNumber_31 K_2_74 Zm_27 rfl rfl
      clear H
      obtain ⟨r1, h1, Hc, K1, K2⟩ := W
      obtain ⟨e1, e2⟩ := t_X2_fail Hc
      have H := K1 _ _ e1 e2
      clear e1 e2 Hc K1 K2
      have W := i_if_eq (t := 41) (q := 37) H I_X2_wantsNumber_34 (by decide) rfl
      clear H
      rcases W with ⟨c_34, H⟩ | ⟨c_34, H⟩
      · skip
        replace H := i_icst (x := 0) (q := 42) H I_X2_wantsNumber_41 (by decide) rfl
        obtain ⟨hr, hh⟩ := i_ir H I_X2_wantsNumber_42
        obtain ⟨f6, f7, f8, f9, ff⟩ := F_1
        rw [f7] at c_9
        rw [f9 c_9] at c_22
        rw [f8] at hh
        have hk : ¬ zNm (m 2) n p most = true := by simp [zNm, c_22]
        refine ⟨_, hr.trans ?_, hh, fun a b hab => ?_, ?_, ?_, fun w => absurd w hk, fun _ => ⟨?_, ?_⟩, fun w => absurd w hk⟩
        · rw [if_neg hk]
        · rw [zup_n (by omega), zup_n (by omega), ff a b (by omega)]
        · rw [zup_n (by omega), zup_n (by omega), f6]
        · rw [zup_n (by omega), zup_n (by omega), f8]
        · rw [zup_n (by omega), zup_s]; simp [zfn, c_9]
        · rw [zup_s]; rfl
      · skip
        replace H := i_icst (x := 1) (q := 38) H I_X2_wantsNumber_37 (by decide) rfl
        replace H := i_goto (q := 42) H I_X2_wantsNumber_38 (by decide)
        obtain ⟨hr, hh⟩ := i_ir H I_X2_wantsNumber_42
        exact absurd rfl c_34
  · skip
    replace H := i_aln (q := 13) H I_X2_wantsNumber_12 rfl rfl
    have W := i_cv0 0 (q := 16) H I_X2_wantsNumber_13 K_2_82 Zm_30 rfl rfl
    clear H
    obtain ⟨r1, h1, Hc, K1, K2⟩ := W
    obtain ⟨e1, e2⟩ := t_X2_failToken Hc
    have H := K1 _ _ e1 e2
    clear e1 e2 Hc K1 K2
    obtain ⟨hr, hh⟩ := i_ir H I_X2_wantsNumber_16
    obtain ⟨f6, f7, f8, f9, ff⟩ := F_1
    rw [f7] at c_9
    rw [f7, f8] at hh
    have hk : ¬ zNm (m 2) n p most = true := by simp [zNm, c_9]
    refine ⟨_, hr.trans ?_, hh, fun a b hab => ?_, ?_, ?_, fun w => absurd w hk, fun _ => ⟨?_, ?_⟩, fun w => absurd w hk⟩
    · rw [if_neg hk]
    · rw [zup_n (by omega), zup_n (by omega), ff a b (by omega)]
    · rw [zup_n (by omega), zup_n (by omega), f6]
    · rw [zup_n (by omega), zup_n (by omega), f8]
    · rw [zup_n (by omega), zup_s]; simp [zfn, c_9]
    · rw [zup_s]; rfl
theorem t_X0_join {d : Nat} {m : zM} {r : Option Value} {h' : zHp} {k i : Nat} {a b c : Int32} (hk : zlk6 k) (hc : m k 2 = Int32.ofNat i) (hi : i ≤ 5) (H : zE none d zm_X0_join 0 [.ref k, .int a, .int b, .int c, .null] [] m r h') : r = none ∧ h' = zhp (zup (zup (zup (zup (zup m (k + 3 + i) 0 a) (k + 3 + i) 1 b) (k + 3 + i) 2 c) (k + 3 + i) 3 0) k 2 (Int32.ofNat (i + 1))) := by
  replace H := i_aln (q := 1) H I_X0_join_0 rfl rfl
  replace H := i_gfr (q := 4) H I_X0_join_1 G_0_11 cn_X0_join (lk_0 hk) rfl rfl
  replace H := i_aln (q := 5) H I_X0_join_4 rfl rfl
  replace H := i_gfi (q := 8) H I_X0_join_5 G_0_26 cn_X0_join (lk_0 hk) rfl rfl
  have W := i_folk (k := k) hk (q := 9) H I_X0_join_8 rfl
  clear H
  obtain ⟨i_8, bi_8, ei_8, H⟩ := W
  replace H := i_as (q := 11) H I_X0_join_9 rfl rfl
  replace H := i_al (q := 13) H I_X0_join_11 rfl rfl
  replace H := i_iln (q := 14) H I_X0_join_13 rfl rfl
  replace H := i_pf (q := 17) H I_X0_join_14 G_0_39 cn_X0_join (lk_p hk bi_8) rfl rfl
  replace H := i_al (q := 19) H I_X0_join_17 rfl rfl
  replace H := i_iln (q := 20) H I_X0_join_19 rfl rfl
  replace H := i_pf (q := 23) H I_X0_join_20 G_0_42 cn_X0_join (lk_p hk bi_8) rfl rfl
  replace H := i_al (q := 25) H I_X0_join_23 rfl rfl
  replace H := i_iln (q := 26) H I_X0_join_25 rfl rfl
  replace H := i_pf (q := 29) H I_X0_join_26 G_0_45 cn_X0_join (lk_p hk bi_8) rfl rfl
  replace H := i_al (q := 31) H I_X0_join_29 rfl rfl
  replace H := i_icst (x := 0) (q := 32) H I_X0_join_31 (by decide) rfl
  replace H := i_pf (q := 35) H I_X0_join_32 G_0_48 cn_X0_join (lk_p hk bi_8) rfl rfl
  replace H := i_aln (q := 36) H I_X0_join_35 rfl rfl
  replace H := i_dup (q := 37) H I_X0_join_36 rfl rfl
  replace H := i_gfi (q := 40) H I_X0_join_37 G_0_26 cn_X0_join (lk_0 hk) rfl rfl
  replace H := i_icst (x := 1) (q := 41) H I_X0_join_40 (by decide) rfl
  replace H := i_iadd (q := 42) H I_X0_join_41 rfl
  replace H := i_pf (q := 45) H I_X0_join_42 G_0_26 cn_X0_join (lk_0 hk) rfl rfl
  obtain ⟨hr, hh⟩ := i_rt H I_X0_join_45
  have e := zofn (hc.symm.trans ei_8) (by omega) (by omega)
  subst e
  refine ⟨hr, hh.trans ?_⟩
  rw [zup_n (by omega), zup_n (by omega), zup_n (by omega), zup_n (by omega), hc, zofn_1]
def zbi (b : Bool) : Int32 := if b = true then 1 else 0
/-- the bits of the first a of a row -/
def zorf (f : Nat → Int32) : Nat → Int32
  | 0 => 0
  | a + 1 => zorf f a ||| f a
theorem zorf_c {f u : Nat → Int32} : ∀ {a : Nat}, (∀ i, i < a → f i = u i) → zorf f a = zorf u a
  | 0, _ => rfl
  | a + 1, h => by
    simp only [zorf]
    rw [zorf_c (fun i hi => h i (by omega)), h a (by omega)]
/-- what the class's draft holds of what has been read: c people, the page g, told once -/
def cV (m : zM) (c : Nat) (g : Nat → Int32) (sT pT : Bool) (sb : Int32) : Prop := m 3 2 = Int32.ofNat c ∧ c ≤ 5 ∧ (∀ i, i < c → m (6 + i) 0 = g i ∧ m (6 + i) 1 = g (5 + i) ∧ m (6 + i) 2 = g (10 + i)) ∧ m 1 10 = g 15 ∧ m 3 4 = g 16 + 1 ∧ m 3 5 = g 17 ∧ (∃ a, a ≤ 8 ∧ g 26 = Int32.ofNat a ∧ m 3 3 = Int32.ofNat a ∧ (∀ i, i < a → m 5 i = g (18 + i)) ∧ (pT = false → a = 0) ∧ sb = zorf (m 5) a) ∧ m 1 11 = zbi sT ∧ m 1 12 = zbi pT ∧ m 1 4 = 0
theorem cV_f {m m1 : zM} {c : Nat} {g : Nat → Int32} {sT pT : Bool} {sb : Int32} (h : cV m c g sT pT sb) (hf : zf49 m m1) (h4 : m1 1 4 = m 1 4) : cV m1 c g sT pT sb := by
  obtain ⟨h1, h2, h3, k4, h5, h6, ⟨a, a1, a2, a3, a4, a5, a6⟩, h8, h9, h10⟩ := h
  refine ⟨by rw [hf 3 2 (by omega)]; exact h1, h2, fun i hi => ?_, by rw [hf 1 10 (by omega)]; exact k4, by rw [hf 3 4 (by omega)]; exact h5, by rw [hf 3 5 (by omega)]; exact h6, ⟨a, a1, a2, by rw [hf 3 3 (by omega)]; exact a3, fun i hi => by rw [hf 5 i (by omega)]; exact a4 i hi, a5, by rw [show m1 5 = m 5 from by funext b; exact hf 5 b (by omega)]; exact a6⟩, by rw [hf 1 11 (by omega)]; exact h8, by rw [hf 1 12 (by omega)]; exact h9, h4.trans h10⟩
  obtain ⟨x, y, z⟩ := h3 i hi
  exact ⟨by rw [hf (6 + i) 0 (by omega)]; exact x, by rw [hf (6 + i) 1 (by omega)]; exact y, by rw [hf (6 + i) 2 (by omega)]; exact z⟩
/-- what the class's reading writes -/
def zfC (m m1 : zM) : Prop := ∀ a b, ¬ (a = 1 ∧ 4 ≤ b) → ¬ (3 ≤ a ∧ a ≤ 10) → m1 a b = m a b
theorem zfC_4 {m m1 : zM} (h : zf49 m m1) : zfC m m1 := fun a b h1 h2 => h a b (by omega)
theorem zfC_t {m m1 m2 : zM} (h1 : zfC m m1) (h2 : zfC m1 m2) : zfC m m2 := fun a b x y => (h2 a b x y).trans (h1 a b x y)
theorem zfC_2 {m m1 : zM} (h : zfC m m1) : m1 2 = m 2 := by funext b; exact h 2 b (by omega) (by omega)
/-- the state of reading: people, the page, slack and plan told, the bits of all acts -/
abbrev zPs : Type := Nat × (Nat → Int32) × Bool × Bool × Int32
abbrev zPr : Type := (Int32 × Nat) ⊕ (zPs × Nat)
/-- what the class holds behind a line -/
def cR (m1 : zM) (r : Option Value) (x : zPr) : Prop := match x with
  | .inl f => r = some (.int 0) ∧ m1 1 4 = f.1 ∧ m1 1 5 = Int32.ofNat f.2
  | .inr q => r = some (.int 1) ∧ cV m1 q.1.1 q.1.2.1 q.1.2.2.1 q.1.2.2.2.1 q.1.2.2.2.2 ∧ m1 1 6 = Int32.ofNat q.2 ∧ q.2 ≤ 160
end
section
/-! the class's lines, one by one -/
theorem It_X2_readLeft : zm_X2_readLeft.2.2.2.2.2 = zt_X2_readLeft := by
  unfold zm_X2_readLeft
  rfl
theorem It_X2_readOne : zm_X2_readOne.2.2.2.2.2 = zt_X2_readOne := by
  unfold zm_X2_readOne
  rfl
theorem It_X2_readSlack : zm_X2_readSlack.2.2.2.2.2 = zt_X2_readSlack := by
  unfold zm_X2_readSlack
  rfl
theorem I_X2_readLeft_0 : zin zm_X2_readLeft.2.2.2.2.2 0 = some (.aload_n 0, 1) := by rw [It_X2_readLeft]; rfl
theorem I_X2_readLeft_1 : zin zm_X2_readLeft.2.2.2.2.2 1 = some (.iconst 4, 1) := by rw [It_X2_readLeft]; rfl
theorem I_X2_readLeft_2 : zin zm_X2_readLeft.2.2.2.2.2 2 = some (.invokevirtual 108, 3) := by rw [It_X2_readLeft]; rfl
theorem I_X2_readLeft_5 : zin zm_X2_readLeft.2.2.2.2.2 5 = some (.ifCond .ne 5, 3) := by rw [It_X2_readLeft]; rfl
theorem I_X2_readLeft_8 : zin zm_X2_readLeft.2.2.2.2.2 8 = some (.iconst 0, 1) := by rw [It_X2_readLeft]; rfl
theorem I_X2_readLeft_9 : zin zm_X2_readLeft.2.2.2.2.2 9 = some (.ireturn, 1) := by rw [It_X2_readLeft]; rfl
theorem I_X2_readLeft_10 : zin zm_X2_readLeft.2.2.2.2.2 10 = some (.aload_n 0, 1) := by rw [It_X2_readLeft]; rfl
theorem I_X2_readLeft_11 : zin zm_X2_readLeft.2.2.2.2.2 11 = some (.getfield 38, 3) := by rw [It_X2_readLeft]; rfl
theorem I_X2_readLeft_14 : zin zm_X2_readLeft.2.2.2.2.2 14 = some (.aload_n 0, 1) := by rw [It_X2_readLeft]; rfl
theorem I_X2_readLeft_15 : zin zm_X2_readLeft.2.2.2.2.2 15 = some (.getfield 105, 3) := by rw [It_X2_readLeft]; rfl
theorem I_X2_readLeft_18 : zin zm_X2_readLeft.2.2.2.2.2 18 = some (.ishr, 1) := by rw [It_X2_readLeft]; rfl
theorem I_X2_readLeft_19 : zin zm_X2_readLeft.2.2.2.2.2 19 = some (.iconst 1, 1) := by rw [It_X2_readLeft]; rfl
theorem I_X2_readLeft_20 : zin zm_X2_readLeft.2.2.2.2.2 20 = some (.iand, 1) := by rw [It_X2_readLeft]; rfl
theorem I_X2_readLeft_21 : zin zm_X2_readLeft.2.2.2.2.2 21 = some (.ifCond .eq 13, 3) := by rw [It_X2_readLeft]; rfl
theorem I_X2_readLeft_24 : zin zm_X2_readLeft.2.2.2.2.2 24 = some (.aload_n 0, 1) := by rw [It_X2_readLeft]; rfl
theorem I_X2_readLeft_25 : zin zm_X2_readLeft.2.2.2.2.2 25 = some (.iconst 4, 1) := by rw [It_X2_readLeft]; rfl
theorem I_X2_readLeft_26 : zin zm_X2_readLeft.2.2.2.2.2 26 = some (.aload_n 0, 1) := by rw [It_X2_readLeft]; rfl
theorem I_X2_readLeft_27 : zin zm_X2_readLeft.2.2.2.2.2 27 = some (.getfield 102, 3) := by rw [It_X2_readLeft]; rfl
theorem I_X2_readLeft_30 : zin zm_X2_readLeft.2.2.2.2.2 30 = some (.invokevirtual 74, 3) := by rw [It_X2_readLeft]; rfl
theorem I_X2_readLeft_33 : zin zm_X2_readLeft.2.2.2.2.2 33 = some (.ireturn, 1) := by rw [It_X2_readLeft]; rfl
theorem I_X2_readLeft_34 : zin zm_X2_readLeft.2.2.2.2.2 34 = some (.aload_n 0, 1) := by rw [It_X2_readLeft]; rfl
theorem I_X2_readLeft_35 : zin zm_X2_readLeft.2.2.2.2.2 35 = some (.dup, 1) := by rw [It_X2_readLeft]; rfl
theorem I_X2_readLeft_36 : zin zm_X2_readLeft.2.2.2.2.2 36 = some (.getfield 38, 3) := by rw [It_X2_readLeft]; rfl
theorem I_X2_readLeft_39 : zin zm_X2_readLeft.2.2.2.2.2 39 = some (.iconst 1, 1) := by rw [It_X2_readLeft]; rfl
theorem I_X2_readLeft_40 : zin zm_X2_readLeft.2.2.2.2.2 40 = some (.aload_n 0, 1) := by rw [It_X2_readLeft]; rfl
theorem I_X2_readLeft_41 : zin zm_X2_readLeft.2.2.2.2.2 41 = some (.getfield 105, 3) := by rw [It_X2_readLeft]; rfl
theorem I_X2_readLeft_44 : zin zm_X2_readLeft.2.2.2.2.2 44 = some (.ishl, 1) := by rw [It_X2_readLeft]; rfl
theorem I_X2_readLeft_45 : zin zm_X2_readLeft.2.2.2.2.2 45 = some (.ior, 1) := by rw [It_X2_readLeft]; rfl
theorem I_X2_readLeft_46 : zin zm_X2_readLeft.2.2.2.2.2 46 = some (.putfield 38, 3) := by rw [It_X2_readLeft]; rfl
theorem I_X2_readLeft_49 : zin zm_X2_readLeft.2.2.2.2.2 49 = some (.aload_n 0, 1) := by rw [It_X2_readLeft]; rfl
theorem I_X2_readLeft_50 : zin zm_X2_readLeft.2.2.2.2.2 50 = some (.invokevirtual 115, 3) := by rw [It_X2_readLeft]; rfl
theorem I_X2_readLeft_53 : zin zm_X2_readLeft.2.2.2.2.2 53 = some (.ireturn, 1) := by rw [It_X2_readLeft]; rfl
theorem I_X2_readOne_0 : zin zm_X2_readOne.2.2.2.2.2 0 = some (.aload_n 0, 1) := by rw [It_X2_readOne]; rfl
theorem I_X2_readOne_1 : zin zm_X2_readOne.2.2.2.2.2 1 = some (.getfield 18, 3) := by rw [It_X2_readOne]; rfl
theorem I_X2_readOne_4 : zin zm_X2_readOne.2.2.2.2.2 4 = some (.getfield 68, 3) := by rw [It_X2_readOne]; rfl
theorem I_X2_readOne_7 : zin zm_X2_readOne.2.2.2.2.2 7 = some (.iconst 5, 1) := by rw [It_X2_readOne]; rfl
theorem I_X2_readOne_8 : zin zm_X2_readOne.2.2.2.2.2 8 = some (.if_icmp .lt 13, 3) := by rw [It_X2_readOne]; rfl
theorem I_X2_readOne_11 : zin zm_X2_readOne.2.2.2.2.2 11 = some (.aload_n 0, 1) := by rw [It_X2_readOne]; rfl
theorem I_X2_readOne_12 : zin zm_X2_readOne.2.2.2.2.2 12 = some (.iconst 5, 1) := by rw [It_X2_readOne]; rfl
theorem I_X2_readOne_13 : zin zm_X2_readOne.2.2.2.2.2 13 = some (.aload_n 0, 1) := by rw [It_X2_readOne]; rfl
theorem I_X2_readOne_14 : zin zm_X2_readOne.2.2.2.2.2 14 = some (.getfield 102, 3) := by rw [It_X2_readOne]; rfl
theorem I_X2_readOne_17 : zin zm_X2_readOne.2.2.2.2.2 17 = some (.invokevirtual 74, 3) := by rw [It_X2_readOne]; rfl
theorem I_X2_readOne_20 : zin zm_X2_readOne.2.2.2.2.2 20 = some (.ireturn, 1) := by rw [It_X2_readOne]; rfl
theorem I_X2_readOne_21 : zin zm_X2_readOne.2.2.2.2.2 21 = some (.aload_n 0, 1) := by rw [It_X2_readOne]; rfl
theorem I_X2_readOne_22 : zin zm_X2_readOne.2.2.2.2.2 22 = some (.bipush 99, 2) := by rw [It_X2_readOne]; rfl
theorem I_X2_readOne_24 : zin zm_X2_readOne.2.2.2.2.2 24 = some (.invokevirtual 108, 3) := by rw [It_X2_readOne]; rfl
theorem I_X2_readOne_27 : zin zm_X2_readOne.2.2.2.2.2 27 = some (.ifCond .ne 5, 3) := by rw [It_X2_readOne]; rfl
theorem I_X2_readOne_30 : zin zm_X2_readOne.2.2.2.2.2 30 = some (.iconst 0, 1) := by rw [It_X2_readOne]; rfl
theorem I_X2_readOne_31 : zin zm_X2_readOne.2.2.2.2.2 31 = some (.ireturn, 1) := by rw [It_X2_readOne]; rfl
theorem I_X2_readOne_32 : zin zm_X2_readOne.2.2.2.2.2 32 = some (.aload_n 0, 1) := by rw [It_X2_readOne]; rfl
theorem I_X2_readOne_33 : zin zm_X2_readOne.2.2.2.2.2 33 = some (.getfield 105, 3) := by rw [It_X2_readOne]; rfl
theorem I_X2_readOne_36 : zin zm_X2_readOne.2.2.2.2.2 36 = some (.istore_n 2, 1) := by rw [It_X2_readOne]; rfl
theorem I_X2_readOne_37 : zin zm_X2_readOne.2.2.2.2.2 37 = some (.aload_n 0, 1) := by rw [It_X2_readOne]; rfl
theorem I_X2_readOne_38 : zin zm_X2_readOne.2.2.2.2.2 38 = some (.bipush 99, 2) := by rw [It_X2_readOne]; rfl
theorem I_X2_readOne_40 : zin zm_X2_readOne.2.2.2.2.2 40 = some (.invokevirtual 108, 3) := by rw [It_X2_readOne]; rfl
theorem I_X2_readOne_43 : zin zm_X2_readOne.2.2.2.2.2 43 = some (.ifCond .ne 5, 3) := by rw [It_X2_readOne]; rfl
theorem I_X2_readOne_46 : zin zm_X2_readOne.2.2.2.2.2 46 = some (.iconst 0, 1) := by rw [It_X2_readOne]; rfl
theorem I_X2_readOne_47 : zin zm_X2_readOne.2.2.2.2.2 47 = some (.ireturn, 1) := by rw [It_X2_readOne]; rfl
theorem I_X2_readOne_48 : zin zm_X2_readOne.2.2.2.2.2 48 = some (.aload_n 0, 1) := by rw [It_X2_readOne]; rfl
theorem I_X2_readOne_49 : zin zm_X2_readOne.2.2.2.2.2 49 = some (.getfield 18, 3) := by rw [It_X2_readOne]; rfl
theorem I_X2_readOne_52 : zin zm_X2_readOne.2.2.2.2.2 52 = some (.iload_n 1, 1) := by rw [It_X2_readOne]; rfl
theorem I_X2_readOne_53 : zin zm_X2_readOne.2.2.2.2.2 53 = some (.iload_n 2, 1) := by rw [It_X2_readOne]; rfl
theorem I_X2_readOne_54 : zin zm_X2_readOne.2.2.2.2.2 54 = some (.aload_n 0, 1) := by rw [It_X2_readOne]; rfl
theorem I_X2_readOne_55 : zin zm_X2_readOne.2.2.2.2.2 55 = some (.getfield 105, 3) := by rw [It_X2_readOne]; rfl
theorem I_X2_readOne_58 : zin zm_X2_readOne.2.2.2.2.2 58 = some (.invokevirtual 111, 3) := by rw [It_X2_readOne]; rfl
theorem I_X2_readOne_61 : zin zm_X2_readOne.2.2.2.2.2 61 = some (.aload_n 0, 1) := by rw [It_X2_readOne]; rfl
theorem I_X2_readOne_62 : zin zm_X2_readOne.2.2.2.2.2 62 = some (.invokevirtual 115, 3) := by rw [It_X2_readOne]; rfl
theorem I_X2_readOne_65 : zin zm_X2_readOne.2.2.2.2.2 65 = some (.ireturn, 1) := by rw [It_X2_readOne]; rfl
theorem I_X2_readSlack_0 : zin zm_X2_readSlack.2.2.2.2.2 0 = some (.aload_n 0, 1) := by rw [It_X2_readSlack]; rfl
theorem I_X2_readSlack_1 : zin zm_X2_readSlack.2.2.2.2.2 1 = some (.getfield 41, 3) := by rw [It_X2_readSlack]; rfl
theorem I_X2_readSlack_4 : zin zm_X2_readSlack.2.2.2.2.2 4 = some (.ifCond .eq 13, 3) := by rw [It_X2_readSlack]; rfl
theorem I_X2_readSlack_7 : zin zm_X2_readSlack.2.2.2.2.2 7 = some (.aload_n 0, 1) := by rw [It_X2_readSlack]; rfl
theorem I_X2_readSlack_8 : zin zm_X2_readSlack.2.2.2.2.2 8 = some (.iconst 4, 1) := by rw [It_X2_readSlack]; rfl
theorem I_X2_readSlack_9 : zin zm_X2_readSlack.2.2.2.2.2 9 = some (.aload_n 0, 1) := by rw [It_X2_readSlack]; rfl
theorem I_X2_readSlack_10 : zin zm_X2_readSlack.2.2.2.2.2 10 = some (.getfield 102, 3) := by rw [It_X2_readSlack]; rfl
theorem I_X2_readSlack_13 : zin zm_X2_readSlack.2.2.2.2.2 13 = some (.invokevirtual 74, 3) := by rw [It_X2_readSlack]; rfl
theorem I_X2_readSlack_16 : zin zm_X2_readSlack.2.2.2.2.2 16 = some (.ireturn, 1) := by rw [It_X2_readSlack]; rfl
theorem I_X2_readSlack_17 : zin zm_X2_readSlack.2.2.2.2.2 17 = some (.aload_n 0, 1) := by rw [It_X2_readSlack]; rfl
theorem I_X2_readSlack_18 : zin zm_X2_readSlack.2.2.2.2.2 18 = some (.iconst 1, 1) := by rw [It_X2_readSlack]; rfl
theorem I_X2_readSlack_19 : zin zm_X2_readSlack.2.2.2.2.2 19 = some (.putfield 41, 3) := by rw [It_X2_readSlack]; rfl
theorem I_X2_readSlack_22 : zin zm_X2_readSlack.2.2.2.2.2 22 = some (.aload_n 0, 1) := by rw [It_X2_readSlack]; rfl
theorem I_X2_readSlack_23 : zin zm_X2_readSlack.2.2.2.2.2 23 = some (.bipush 9, 2) := by rw [It_X2_readSlack]; rfl
theorem I_X2_readSlack_25 : zin zm_X2_readSlack.2.2.2.2.2 25 = some (.invokevirtual 108, 3) := by rw [It_X2_readSlack]; rfl
theorem I_X2_readSlack_28 : zin zm_X2_readSlack.2.2.2.2.2 28 = some (.ifCond .ne 5, 3) := by rw [It_X2_readSlack]; rfl
theorem I_X2_readSlack_31 : zin zm_X2_readSlack.2.2.2.2.2 31 = some (.iconst 0, 1) := by rw [It_X2_readSlack]; rfl
theorem I_X2_readSlack_32 : zin zm_X2_readSlack.2.2.2.2.2 32 = some (.ireturn, 1) := by rw [It_X2_readSlack]; rfl
theorem I_X2_readSlack_33 : zin zm_X2_readSlack.2.2.2.2.2 33 = some (.aload_n 0, 1) := by rw [It_X2_readSlack]; rfl
theorem I_X2_readSlack_34 : zin zm_X2_readSlack.2.2.2.2.2 34 = some (.getfield 18, 3) := by rw [It_X2_readSlack]; rfl
theorem I_X2_readSlack_37 : zin zm_X2_readSlack.2.2.2.2.2 37 = some (.aload_n 0, 1) := by rw [It_X2_readSlack]; rfl
theorem I_X2_readSlack_38 : zin zm_X2_readSlack.2.2.2.2.2 38 = some (.getfield 105, 3) := by rw [It_X2_readSlack]; rfl
theorem I_X2_readSlack_41 : zin zm_X2_readSlack.2.2.2.2.2 41 = some (.putfield 118, 3) := by rw [It_X2_readSlack]; rfl
theorem I_X2_readSlack_44 : zin zm_X2_readSlack.2.2.2.2.2 44 = some (.aload_n 0, 1) := by rw [It_X2_readSlack]; rfl
theorem I_X2_readSlack_45 : zin zm_X2_readSlack.2.2.2.2.2 45 = some (.invokevirtual 115, 3) := by rw [It_X2_readSlack]; rfl
theorem I_X2_readSlack_48 : zin zm_X2_readSlack.2.2.2.2.2 48 = some (.ireturn, 1) := by rw [It_X2_readSlack]; rfl
theorem G_2_18 : zlk zfls 2 18 = some (2, 1, 153) := rfl
theorem G_2_38 : zlk zfls 2 38 = some (2, 10, 167) := rfl
theorem G_2_41 : zlk zfls 2 41 = some (2, 11, 168) := rfl
theorem G_2_68 : zlk zfls 2 68 = some (0, 2, 127) := rfl
theorem G_2_118 : zlk zfls 2 118 = some (0, 4, 135) := rfl
theorem K_2_108 : zlk zmls 2 108 = some (0, 32, 1, 447) := rfl
theorem K_2_111 : zlk zmls 2 111 = some (0, 5, 3, 451) := rfl
theorem K_2_115 : zlk zmls 2 115 = some (0, 31, 0, 455) := rfl
theorem Zm_5 : zms[5]? = some zm_X0_join := rfl
theorem Zm_31 : zms[31]? = some zm_X2_wantsStop := rfl
theorem Zm_32 : zms[32]? = some zm_X2_wantsNumber := rfl
theorem LY_3 : zLY[3]? = some (Sum.inr 0, [some (.ref 4), some (.ref 5), none, none, none, none]) := rfl
theorem cl_X2_readLeft : zm_X2_readLeft.2.2.2.2.1 = 2 := by
  unfold zm_X2_readLeft
  rfl
theorem cn_X2_readLeft : zm_X2_readLeft.2.2.2.2.1 ≠ 12 := by
  rw [cl_X2_readLeft]
  decide
theorem cl_X2_readOne : zm_X2_readOne.2.2.2.2.1 = 2 := by
  unfold zm_X2_readOne
  rfl
theorem cn_X2_readOne : zm_X2_readOne.2.2.2.2.1 ≠ 12 := by
  rw [cl_X2_readOne]
  decide
theorem cl_X2_readSlack : zm_X2_readSlack.2.2.2.2.1 = 2 := by
  unfold zm_X2_readSlack
  rfl
theorem cn_X2_readSlack : zm_X2_readSlack.2.2.2.2.1 ≠ 12 := by
  rw [cl_X2_readSlack]
  decide
section
variable (t : Nat → Int32) (n : Nat) (σ : zPs)
def pEnd (p : Nat) (x : zPs) : zPr := if tK t n p = 3 then .inr (x, tN t n p) else .inl (zft t n p)
def pOne (w s p : Nat) : zPr := if σ.1 = 5 then .inl (5, s) else if zNm t n p 99 = true then (if zNm t n (tN t n p) 99 = true then pEnd t n (tN t n (tN t n p)) (σ.1 + 1, gset (gset (gset σ.2.1 σ.1 (Int32.ofNat w)) (5 + σ.1) (tV t n p)) (10 + σ.1) (tV t n (tN t n p)), σ.2.2) else .inl (zfn t n (tN t n p))) else .inl (zfn t n p)
def pLeft (p : Nat) : zPr := if zNm t n p 4 = true then (if (σ.2.1 15 >>> (tV t n p &&& 31)) &&& 1 = 0 then pEnd t n (tN t n p) (σ.1, gset σ.2.1 15 (σ.2.1 15 ||| (1 <<< (tV t n p &&& 31))), σ.2.2) else .inl (4, tS t n p)) else .inl (zfn t n p)
def pSlack (s p : Nat) : zPr := if σ.2.2.1 = true then .inl (4, s) else if zNm t n p 9 = true then pEnd t n (tN t n p) (σ.1, gset σ.2.1 16 (tV t n p - 1), true, σ.2.2.2) else .inl (zfn t n p)
def pPl (c : Nat) (sT : Bool) : Nat → Nat → (Nat → Int32) → Int32 → Nat → zPr
  | 0, _, _, _, _ => .inl (0, 0)
  | k + 1, a, g, sb, p => if tK t n p = 3 then .inr ((c, g, sT, true, sb), tN t n p) else if tK t n p = 2 then (if 8 ≤ a then .inl (5, tS t n p) else if 31 < tV t n p then .inl (3, tS t n p) else pPl c sT k (a + 1) (gset (gset g (18 + a) (tV t n p)) 26 (Int32.ofNat (a + 1))) (sb ||| tV t n p) (tN t n p)) else .inl (zft t n p)
def pPlan (s p : Nat) : zPr := if σ.2.2.2.1 = true then .inl (4, s) else pPl t n σ.1 σ.2.2.1 9 0 σ.2.1 σ.2.2.2.2 p
/-- a line, from its first token on -/
def pLn (p : Nat) : zPr := if tK t n p = 1 then (if zword t (tS t n p) (tN t n p) < 4 then pOne t n σ (zword t (tS t n p) (tN t n p)) (tS t n p) (tN t n p) else if zword t (tS t n p) (tN t n p) = 4 then pLeft t n σ (tN t n p) else if zword t (tS t n p) (tN t n p) = 5 then pSlack t n σ (tS t n p) (tN t n p) else if zword t (tS t n p) (tN t n p) = 6 then pPlan t n σ (tS t n p) (tN t n p) else .inl (2, tS t n p)) else .inl (zft t n p)
end
theorem cR_end {m m1 m2 : zM} {r : Option Value} {n p : Nat} {x : zPs} {t : Nat → Int32} (ht : m1 2 = t) (hr : r = some (.int (if tK (m1 2) n p = 3 then 1 else 0))) (hV : cV m1 x.1 x.2.1 x.2.2.1 x.2.2.2.1 x.2.2.2.2) (hp : p ≤ n) (hn : n ≤ 160) (F : zf49 m1 m2 ∧ m2 1 6 = Int32.ofNat (tN (m1 2) n p) ∧ (¬ tK (m1 2) n p = 3 → m2 1 4 = (zft (m1 2) n p).1 ∧ m2 1 5 = Int32.ofNat (zft (m1 2) n p).2) ∧ (tK (m1 2) n p = 3 → m2 1 4 = m1 1 4)) : cR m2 r (pEnd t n p x) := by
  subst ht
  obtain ⟨f1, f2, f3, f4⟩ := F
  unfold pEnd
  by_cases h : tK (m1 2) n p = 3
  · rw [if_pos h]
    rw [if_pos h] at hr
    exact ⟨hr, cV_f hV f1 (f4 h), f2, Nat.le_trans (tN_le hp) hn⟩
  · rw [if_neg h]
    rw [if_neg h] at hr
    exact ⟨hr, f3 h⟩
theorem t_X2_readOne {d : Nat} {m : zM} {r : Option Value} {h' : zHp} {n p s c : Nat} {g : Nat → Int32} {sT pT : Bool} {sb : Int32} (hq : zPl m n p) (hs : m 1 8 = Int32.ofNat s) (hV : cV m c g sT pT sb) {w : Nat} (H : zE none d zm_X2_readOne 0 [.ref 1, .int (Int32.ofNat w), .null] [] m r h') : ∃ m1, h' = zhp m1 ∧ zfC m m1 ∧ cR m1 r (pOne (m 2) n (c, g, sT, pT, sb) w s p) := by
  replace H := i_aln (q := 1) H I_X2_readOne_0 rfl rfl
  replace H := i_gfr (q := 4) H I_X2_readOne_1 G_2_18 cn_X2_readOne LY_1 rfl rfl
  replace H := i_gfi (q := 7) H I_X2_readOne_4 G_2_68 cn_X2_readOne LY_3 rfl rfl
  replace H := i_icst (x := 5) (q := 8) H I_X2_readOne_7 (by decide) rfl
  have W := i_ic_lt (t := 21) (q := 11) H I_X2_readOne_8 (by decide) rfl
  clear H
  rcases W with ⟨c_8, H⟩ | ⟨c_8, H⟩
  · skip
    replace H := i_aln (q := 22) H I_X2_readOne_21 rfl rfl
    replace H := i_bip (x := 99) (q := 24) H I_X2_readOne_22 (by decide) rfl
    have W := i_cv1 0 (q := 27) H I_X2_readOne_24 K_2_108 Zm_32 rfl rfl
    clear H
    obtain ⟨r1, h1, Hc, K1, K2⟩ := W
    obtain ⟨M_24, e1, e2, F_24⟩ := t_X2_wantsNumber (n := n) (p := p) hq Hc
    have H := K1 _ _ e1 e2
    clear e1 e2 Hc K1 K2
    have W := i_if_ne (t := 32) (q := 30) H I_X2_readOne_27 (by decide) rfl
    clear H
    rcases W with ⟨c_27, H⟩ | ⟨c_27, H⟩
    · skip
      replace H := i_aln (q := 33) H I_X2_readOne_32 rfl rfl
      replace H := i_gfi (q := 36) H I_X2_readOne_33 G_2_105 cn_X2_readOne LY_1 rfl rfl
      replace H := i_isn (q := 37) H I_X2_readOne_36 rfl rfl
      replace H := i_aln (q := 38) H I_X2_readOne_37 rfl rfl
      replace H := i_bip (x := 99) (q := 40) H I_X2_readOne_38 (by decide) rfl
      have W := i_cv1 0 (q := 43) H I_X2_readOne_40 K_2_108 Zm_32 rfl rfl
      clear H
      obtain ⟨r1, h1, Hc, K1, K2⟩ := W
      obtain ⟨M_40, e1, e2, F_40⟩ := t_X2_wantsNumber (n := n) (p := tN (m 2) n p) (zPl_s hq F_24.1 F_24.2.1 (tN_le hq.2.2.2)) Hc
      have H := K1 _ _ e1 e2
      clear e1 e2 Hc K1 K2
      have W := i_if_ne (t := 48) (q := 46) H I_X2_readOne_43 (by decide) rfl
      clear H
      rcases W with ⟨c_43, H⟩ | ⟨c_43, H⟩
      · skip
        replace H := i_aln (q := 49) H I_X2_readOne_48 rfl rfl
        replace H := i_gfr (q := 52) H I_X2_readOne_49 G_2_18 cn_X2_readOne LY_1 rfl rfl
        replace H := i_iln (q := 53) H I_X2_readOne_52 rfl rfl
        replace H := i_iln (q := 54) H I_X2_readOne_53 rfl rfl
        replace H := i_aln (q := 55) H I_X2_readOne_54 rfl rfl
        replace H := i_gfi (q := 58) H I_X2_readOne_55 G_2_105 cn_X2_readOne LY_1 rfl rfl
        have W := i_cv3 1 (q := 61) H I_X2_readOne_58 K_2_111 Zm_5 rfl rfl
        clear H
        obtain ⟨r1, h1, Hc, K1, K2⟩ := W
        obtain ⟨e1, e2⟩ := t_X0_join lkk_3 (i := c) (by rw [F_40.1 3 2 (by omega), F_24.1 3 2 (by omega)]; exact hV.1) (by have := hV.2.1; omega) Hc
        have H := K2 _ e1 e2
        clear e1 e2 Hc K1 K2
        replace H := i_aln (q := 62) H I_X2_readOne_61 rfl rfl
        have W := i_cv0 0 (q := 65) H I_X2_readOne_62 K_2_115 Zm_31 rfl rfl
        clear H
        obtain ⟨r1, h1, Hc, K1, K2⟩ := W
        obtain ⟨M_62, e1, e2, F_62⟩ := t_X2_wantsStop (n := n) (p := tN (m 2) n (tN (m 2) n p)) (by
      have e2 := zf49_2 F_24.1
      have := zPl_s (zPl_s hq F_24.1 F_24.2.1 (tN_le hq.2.2.2)) F_40.1 (q := tN (M_24 2) n (tN (m 2) n p)) F_40.2.1 (tN_le (tN_le hq.2.2.2))
      rw [e2] at this
      exact ⟨by rw [zup_n (by omega), zup_n (by omega), zup_n (by omega), zup_n (by omega), zup_n (by omega)]; exact this.1, this.2.1, by rw [zup_n (by omega), zup_n (by omega), zup_n (by omega), zup_n (by omega), zup_n (by omega)]; exact this.2.2.1, this.2.2.2⟩) Hc
        have H := K1 _ _ e1 e2
        clear e1 e2 Hc K1 K2
        obtain ⟨hr, hh⟩ := i_ir H I_X2_readOne_65
        have h5 : ¬ c = 5 := by
          rw [hV.1] at c_8
          have := (zofn_lt (i := c) (j := 5) (by have := hV.2.1; omega) (by decide)).mp c_8
          omega
        have k1 := zif1 c_27
        obtain ⟨f1, f2, f3, f4, f5, f10⟩ := F_24
        have e2 := zf49_2 f1
        rw [e2] at c_43 F_40
        have k2 := zif1 c_43
        obtain ⟨g1, g2, g3, g4, g5, g10⟩ := F_40
        have e3 : M_40 2 = m 2 := (zf49_2 g1).trans e2
        have v1 := f4 k1
        have v2 := g4 k2
        rw [v1, v2] at hr F_62
        rw [show pOne (m 2) n (c, g, sT, pT, sb) w s p = pEnd (m 2) n (tN (m 2) n (tN (m 2) n p)) (c + 1, gset (gset (gset g c (Int32.ofNat w)) (5 + c) (tV (m 2) n p)) (10 + c) (tV (m 2) n (tN (m 2) n p)), sT, pT, sb) by simp [pOne, h5, k1, k2]]
        have hV2 := cV_f (cV_f hV f1 (f10 k1)) g1 (g10 k2)
        obtain ⟨q1, q2, q3, q4, q5, q6, ⟨a, a1, a2, a3, a4, a5, a6⟩, q8, q9, q10⟩ := hV2
        refine ⟨_, hh, zfC_t (zfC_4 (zf49_t f1 g1)) (zfC_t (fun a b x y => ?_) (zfC_4 F_62.1)), cR_end (m := m) ?_ hr ?_ (tN_le (tN_le hq.2.2.2)) hq.2.1 F_62⟩
        · rw [zup_n (by omega), zup_n (by omega), zup_n (by omega), zup_n (by omega), zup_n (by omega)]
        · funext b
          rw [zup_n (by omega), zup_n (by omega), zup_n (by omega), zup_n (by omega), zup_n (by omega), e3]
        · refine ⟨by rw [zup_s], by show c + 1 ≤ 5; omega, fun i hi => ?_, ?_, ?_, ?_, ⟨a, a1, ?_, ?_, fun i hi => ?_, a5, ?_⟩, ?_, ?_, ?_⟩
          · have hi : i < c + 1 := hi
            by_cases hic : i = c
            · subst hic
              refine ⟨?_, ?_, ?_⟩
              · simp [zup, gset, show ¬ i = 10 + i by omega, show ¬ i = 5 + i by omega, show ¬ 6 + i = 3 by omega]
              · simp [zup, gset, show ¬ 5 + i = 10 + i by omega, show ¬ 6 + i = 3 by omega]
              · simp [zup, gset, show ¬ 6 + i = 3 by omega]
            · obtain ⟨x, y, z⟩ := q3 i (by omega)
              refine ⟨?_, ?_, ?_⟩
              · rw [zup_n (by omega), zup_n (by omega), zup_n (by omega), zup_n (by omega), zup_n (by omega)]
                dsimp only
                rw [gset_n (by omega), gset_n (by omega), gset_n (by omega), x]
              · rw [zup_n (by omega), zup_n (by omega), zup_n (by omega), zup_n (by omega), zup_n (by omega)]
                dsimp only
                rw [gset_n (by omega), gset_n (by omega), gset_n (by omega), y]
              · rw [zup_n (by omega), zup_n (by omega), zup_n (by omega), zup_n (by omega), zup_n (by omega)]
                dsimp only
                rw [gset_n (by omega), gset_n (by omega), gset_n (by omega), z]
          · rw [zup_n (by omega), zup_n (by omega), zup_n (by omega), zup_n (by omega), zup_n (by omega)]
            dsimp only
            rw [gset_n (by omega), gset_n (by omega), gset_n (by omega), q4]
          · rw [zup_n (by omega), zup_n (by omega), zup_n (by omega), zup_n (by omega), zup_n (by omega)]
            dsimp only
            rw [gset_n (by omega), gset_n (by omega), gset_n (by omega), q5]
          · rw [zup_n (by omega), zup_n (by omega), zup_n (by omega), zup_n (by omega), zup_n (by omega)]
            dsimp only
            rw [gset_n (by omega), gset_n (by omega), gset_n (by omega), q6]
          · dsimp only
            rw [gset_n (by omega), gset_n (by omega), gset_n (by omega), a2]
          · rw [zup_n (by omega), zup_n (by omega), zup_n (by omega), zup_n (by omega), zup_n (by omega), a3]
          · rw [zup_n (by omega), zup_n (by omega), zup_n (by omega), zup_n (by omega), zup_n (by omega)]
            dsimp only
            rw [gset_n (by omega), gset_n (by omega), gset_n (by omega), a4 i hi]
          · refine a6.trans (zorf_c (fun i hi => ?_))
            rw [zup_n (by omega), zup_n (by omega), zup_n (by omega), zup_n (by omega), zup_n (by omega)]
          · rw [zup_n (by omega), zup_n (by omega), zup_n (by omega), zup_n (by omega), zup_n (by omega), q8]
          · rw [zup_n (by omega), zup_n (by omega), zup_n (by omega), zup_n (by omega), zup_n (by omega), q9]
          · rw [zup_n (by omega), zup_n (by omega), zup_n (by omega), zup_n (by omega), zup_n (by omega), q10]
      · skip
        replace H := i_icst (x := 0) (q := 47) H I_X2_readOne_46 (by decide) rfl
        obtain ⟨hr, hh⟩ := i_ir H I_X2_readOne_47
        have h5 : ¬ c = 5 := by
          rw [hV.1] at c_8
          have := (zofn_lt (i := c) (j := 5) (by have := hV.2.1; omega) (by decide)).mp c_8
          omega
        have k1 := zif1 c_27
        obtain ⟨f1, f2, f3, f4, f5, f10⟩ := F_24
        have e2 := zf49_2 f1
        rw [e2] at c_43 F_40
        have k2 := zif0 c_43
        obtain ⟨g1, g2, g3, g4, g5, g10⟩ := F_40
        refine ⟨_, hh, zfC_4 (zf49_t f1 g1), ?_⟩
        rw [show pOne (m 2) n (c, g, sT, pT, sb) w s p = .inl (zfn (m 2) n (tN (m 2) n p)) by simp [pOne, h5, k1, k2]]
        exact ⟨hr, g5 k2⟩
    · skip
      replace H := i_icst (x := 0) (q := 31) H I_X2_readOne_30 (by decide) rfl
      obtain ⟨hr, hh⟩ := i_ir H I_X2_readOne_31
      have h5 : ¬ c = 5 := by
        rw [hV.1] at c_8
        have := (zofn_lt (i := c) (j := 5) (by have := hV.2.1; omega) (by decide)).mp c_8
        omega
      have k1 := zif0 c_27
      obtain ⟨f1, f2, f3, f4, f5, f10⟩ := F_24
      refine ⟨_, hh, zfC_4 f1, ?_⟩
      rw [show pOne (m 2) n (c, g, sT, pT, sb) w s p = .inl (zfn (m 2) n p) by simp [pOne, h5, k1]]
      exact ⟨hr, f5 k1⟩
  · skip
    replace H := i_aln (q := 12) H I_X2_readOne_11 rfl rfl
    replace H := i_icst (x := 5) (q := 13) H I_X2_readOne_12 (by decide) rfl
    replace H := i_aln (q := 14) H I_X2_readOne_13 rfl rfl
    replace H := i_gfi (q := 17) H I_X2_readOne_14 G_2_102 cn_X2_readOne LY_1 rfl rfl
    have W := i_cv2 0 (q := 20) H I_X2_readOne_17 K_2_74 Zm_27 rfl rfl
    clear H
    obtain ⟨r1, h1, Hc, K1, K2⟩ := W
    obtain ⟨e1, e2⟩ := t_X2_fail Hc
    have H := K1 _ _ e1 e2
    clear e1 e2 Hc K1 K2
    obtain ⟨hr, hh⟩ := i_ir H I_X2_readOne_20
    have h5 : c = 5 := by
      rw [hV.1] at c_8
      have := mt (zofn_lt (i := c) (j := 5) (by have := hV.2.1; omega) (by decide)).mpr c_8
      have := hV.2.1
      omega
    rw [hs] at hh
    refine ⟨_, hh, fun a b h1 h2 => by rw [zup_n (by omega), zup_n (by omega)], ?_⟩
    rw [show pOne (m 2) n (c, g, sT, pT, sb) w s p = .inl (5, s) by simp [pOne, h5]]
    exact ⟨hr, by rw [zup_n (by omega), zup_s], by rw [zup_s]⟩
theorem t_X2_readLeft {d : Nat} {m : zM} {r : Option Value} {h' : zHp} {n p s c : Nat} {g : Nat → Int32} {sT pT : Bool} {sb : Int32} (hq : zPl m n p) (hs : m 1 8 = Int32.ofNat s) (hV : cV m c g sT pT sb) (H : zE none d zm_X2_readLeft 0 [.ref 1] [] m r h') : ∃ m1, h' = zhp m1 ∧ zfC m m1 ∧ cR m1 r (pLeft (m 2) n (c, g, sT, pT, sb) p) := by
  replace H := i_aln (q := 1) H I_X2_readLeft_0 rfl rfl
  replace H := i_icst (x := 4) (q := 2) H I_X2_readLeft_1 (by decide) rfl
  have W := i_cv1 0 (q := 5) H I_X2_readLeft_2 K_2_108 Zm_32 rfl rfl
  clear H
  obtain ⟨r1, h1, Hc, K1, K2⟩ := W
  obtain ⟨M_2, e1, e2, F_2⟩ := t_X2_wantsNumber (n := n) (p := p) hq Hc
  have H := K1 _ _ e1 e2
  clear e1 e2 Hc K1 K2
  have W := i_if_ne (t := 10) (q := 8) H I_X2_readLeft_5 (by decide) rfl
  clear H
  rcases W with ⟨c_5, H⟩ | ⟨c_5, H⟩
  · skip
    replace H := i_aln (q := 11) H I_X2_readLeft_10 rfl rfl
    replace H := i_gfi (q := 14) H I_X2_readLeft_11 G_2_38 cn_X2_readLeft LY_1 rfl rfl
    replace H := i_aln (q := 15) H I_X2_readLeft_14 rfl rfl
    replace H := i_gfi (q := 18) H I_X2_readLeft_15 G_2_105 cn_X2_readLeft LY_1 rfl rfl
    replace H := i_ishr (q := 19) H I_X2_readLeft_18 rfl
    replace H := i_icst (x := 1) (q := 20) H I_X2_readLeft_19 (by decide) rfl
    replace H := i_iand (q := 21) H I_X2_readLeft_20 rfl
    have W := i_if_eq (t := 34) (q := 24) H I_X2_readLeft_21 (by decide) rfl
    clear H
    rcases W with ⟨c_21, H⟩ | ⟨c_21, H⟩
    · skip
      replace H := i_aln (q := 35) H I_X2_readLeft_34 rfl rfl
      replace H := i_dup (q := 36) H I_X2_readLeft_35 rfl rfl
      replace H := i_gfi (q := 39) H I_X2_readLeft_36 G_2_38 cn_X2_readLeft LY_1 rfl rfl
      replace H := i_icst (x := 1) (q := 40) H I_X2_readLeft_39 (by decide) rfl
      replace H := i_aln (q := 41) H I_X2_readLeft_40 rfl rfl
      replace H := i_gfi (q := 44) H I_X2_readLeft_41 G_2_105 cn_X2_readLeft LY_1 rfl rfl
      replace H := i_ishl (q := 45) H I_X2_readLeft_44 rfl
      replace H := i_ior (q := 46) H I_X2_readLeft_45 rfl
      replace H := i_pf (q := 49) H I_X2_readLeft_46 G_2_38 cn_X2_readLeft LY_1 rfl rfl
      replace H := i_aln (q := 50) H I_X2_readLeft_49 rfl rfl
      have W := i_cv0 0 (q := 53) H I_X2_readLeft_50 K_2_115 Zm_31 rfl rfl
      clear H
      obtain ⟨r1, h1, Hc, K1, K2⟩ := W
      obtain ⟨M_50, e1, e2, F_50⟩ := t_X2_wantsStop (n := n) (p := tN (m 2) n p) (by
      have := zPl_s hq F_2.1 F_2.2.1 (tN_le hq.2.2.2)
      exact ⟨by rw [zup_n (by omega)]; exact this.1, this.2.1, by rw [zup_n (by omega)]; exact this.2.2.1, this.2.2.2⟩) Hc
      have H := K1 _ _ e1 e2
      clear e1 e2 Hc K1 K2
      obtain ⟨hr, hh⟩ := i_ir H I_X2_readLeft_53
      have k1 := zif1 c_5
      obtain ⟨f1, f2, f3, f4, f5, f10⟩ := F_2
      have e2 := zf49_2 f1
      have hV2 := cV_f hV f1 (f10 k1)
      obtain ⟨q1, q2, q3, q4, q5, q6, ⟨a, a1, a2, a3, a4, a5, a6⟩, q8, q9, q10⟩ := hV2
      rw [q4, f4 k1] at c_21
      rw [show pLeft (m 2) n (c, g, sT, pT, sb) p = pEnd (m 2) n (tN (m 2) n p) (c, gset g 15 (g 15 ||| (1 <<< (tV (m 2) n p &&& 31))), sT, pT, sb) by simp [pLeft, k1, c_21]]
      rw [q4, f4 k1] at hr F_50
      refine ⟨_, hh, zfC_t (zfC_4 f1) (zfC_t (fun a b x y => ?_) (zfC_4 F_50.1)), cR_end (m := m) ?_ hr ?_ (tN_le hq.2.2.2) hq.2.1 F_50⟩
      · rw [zup_n (by omega)]
      · funext b
        rw [zup_n (by omega), e2]
      · refine ⟨by rw [zup_n (by omega)]; exact q1, q2, fun i hi => ?_, ?_, ?_, ?_, ⟨a, a1, ?_, ?_, fun i hi => ?_, a5, ?_⟩, ?_, ?_, ?_⟩
        · obtain ⟨x, y, z⟩ := q3 i hi
          have hi5 : i < 5 := by have : i < c := hi; omega
          refine ⟨?_, ?_, ?_⟩
          · rw [zup_n (by omega)]
            dsimp only
            rw [gset_n (by omega), x]
          · rw [zup_n (by omega)]
            dsimp only
            rw [gset_n (by omega), y]
          · rw [zup_n (by omega)]
            dsimp only
            rw [gset_n (by omega), z]
        · rw [zup_s]
          dsimp only
          rw [gset_s]
        · rw [zup_n (by omega)]
          dsimp only
          rw [gset_n (by omega), q5]
        · rw [zup_n (by omega)]
          dsimp only
          rw [gset_n (by omega), q6]
        · dsimp only
          rw [gset_n (by omega), a2]
        · rw [zup_n (by omega), a3]
        · rw [zup_n (by omega)]
          dsimp only
          rw [gset_n (by omega), a4 i hi]
        · refine a6.trans (zorf_c (fun i hi => ?_))
          rw [zup_n (by omega)]
        · rw [zup_n (by omega), q8]
        · rw [zup_n (by omega), q9]
        · rw [zup_n (by omega), q10]
    · skip
      replace H := i_aln (q := 25) H I_X2_readLeft_24 rfl rfl
      replace H := i_icst (x := 4) (q := 26) H I_X2_readLeft_25 (by decide) rfl
      replace H := i_aln (q := 27) H I_X2_readLeft_26 rfl rfl
      replace H := i_gfi (q := 30) H I_X2_readLeft_27 G_2_102 cn_X2_readLeft LY_1 rfl rfl
      have W := i_cv2 0 (q := 33) H I_X2_readLeft_30 K_2_74 Zm_27 rfl rfl
      clear H
      obtain ⟨r1, h1, Hc, K1, K2⟩ := W
      obtain ⟨e1, e2⟩ := t_X2_fail Hc
      have H := K1 _ _ e1 e2
      clear e1 e2 Hc K1 K2
      obtain ⟨hr, hh⟩ := i_ir H I_X2_readLeft_33
      have k1 := zif1 c_5
      obtain ⟨f1, f2, f3, f4, f5, f10⟩ := F_2
      have e2 := zf49_2 f1
      have hV2 := cV_f hV f1 (f10 k1)
      obtain ⟨q1, q2, q3, q4, q5, q6, ⟨a, a1, a2, a3, a4, a5, a6⟩, q8, q9, q10⟩ := hV2
      rw [q4, f4 k1] at c_21
      rw [f3] at hh
      refine ⟨_, hh, zfC_t (zfC_4 f1) (fun a b x y => by rw [zup_n (by omega), zup_n (by omega)]), ?_⟩
      rw [show pLeft (m 2) n (c, g, sT, pT, sb) p = .inl (4, tS (m 2) n p) by simp [pLeft, k1, c_21]]
      exact ⟨hr, by rw [zup_n (by omega), zup_s], by rw [zup_s]⟩
  · skip
    replace H := i_icst (x := 0) (q := 9) H I_X2_readLeft_8 (by decide) rfl
    obtain ⟨hr, hh⟩ := i_ir H I_X2_readLeft_9
    have k1 := zif0 c_5
    obtain ⟨f1, f2, f3, f4, f5, f10⟩ := F_2
    refine ⟨_, hh, zfC_4 f1, ?_⟩
    rw [show pLeft (m 2) n (c, g, sT, pT, sb) p = .inl (zfn (m 2) n p) by simp [pLeft, k1]]
    exact ⟨hr, f5 k1⟩
theorem t_X2_readSlack {d : Nat} {m : zM} {r : Option Value} {h' : zHp} {n p s c : Nat} {g : Nat → Int32} {sT pT : Bool} {sb : Int32} (hq : zPl m n p) (hs : m 1 8 = Int32.ofNat s) (hV : cV m c g sT pT sb) (H : zE none d zm_X2_readSlack 0 [.ref 1] [] m r h') : ∃ m1, h' = zhp m1 ∧ zfC m m1 ∧ cR m1 r (pSlack (m 2) n (c, g, sT, pT, sb) s p) := by
  replace H := i_aln (q := 1) H I_X2_readSlack_0 rfl rfl
  replace H := i_gfi (q := 4) H I_X2_readSlack_1 G_2_41 cn_X2_readSlack LY_1 rfl rfl
  have W := i_if_eq (t := 17) (q := 7) H I_X2_readSlack_4 (by decide) rfl
  clear H
  rcases W with ⟨c_4, H⟩ | ⟨c_4, H⟩
  · skip
    replace H := i_aln (q := 18) H I_X2_readSlack_17 rfl rfl
    replace H := i_icst (x := 1) (q := 19) H I_X2_readSlack_18 (by decide) rfl
    replace H := i_pf (q := 22) H I_X2_readSlack_19 G_2_41 cn_X2_readSlack LY_1 rfl rfl
    replace H := i_aln (q := 23) H I_X2_readSlack_22 rfl rfl
    replace H := i_bip (x := 9) (q := 25) H I_X2_readSlack_23 (by decide) rfl
    have W := i_cv1 0 (q := 28) H I_X2_readSlack_25 K_2_108 Zm_32 rfl rfl
    clear H
    obtain ⟨r1, h1, Hc, K1, K2⟩ := W
    obtain ⟨M_25, e1, e2, F_25⟩ := t_X2_wantsNumber (n := n) (p := p) (⟨by rw [zup_n (by omega)]; exact hq.1, hq.2.1, by rw [zup_n (by omega)]; exact hq.2.2.1, hq.2.2.2⟩ : zPl (zup m 1 11 1) n p) Hc
    have H := K1 _ _ e1 e2
    clear e1 e2 Hc K1 K2
    have W := i_if_ne (t := 33) (q := 31) H I_X2_readSlack_28 (by decide) rfl
    clear H
    rcases W with ⟨c_28, H⟩ | ⟨c_28, H⟩
    · skip
      replace H := i_aln (q := 34) H I_X2_readSlack_33 rfl rfl
      replace H := i_gfr (q := 37) H I_X2_readSlack_34 G_2_18 cn_X2_readSlack LY_1 rfl rfl
      replace H := i_aln (q := 38) H I_X2_readSlack_37 rfl rfl
      replace H := i_gfi (q := 41) H I_X2_readSlack_38 G_2_105 cn_X2_readSlack LY_1 rfl rfl
      replace H := i_pf (q := 44) H I_X2_readSlack_41 G_2_118 cn_X2_readSlack LY_3 rfl rfl
      replace H := i_aln (q := 45) H I_X2_readSlack_44 rfl rfl
      have W := i_cv0 0 (q := 48) H I_X2_readSlack_45 K_2_115 Zm_31 rfl rfl
      clear H
      obtain ⟨r1, h1, Hc, K1, K2⟩ := W
      obtain ⟨M_45, e1, e2, F_45⟩ := t_X2_wantsStop (n := n) (p := tN (m 2) n p) (by
      have e0 : zup m 1 11 1 2 = m 2 := by funext b; rw [zup_n (by omega)]
      have := zPl_s (⟨by rw [zup_n (by omega)]; exact hq.1, hq.2.1, by rw [zup_n (by omega)]; exact hq.2.2.1, hq.2.2.2⟩ : zPl (zup m 1 11 1) n p) F_25.1 F_25.2.1 (tN_le hq.2.2.2)
      rw [e0] at this
      exact ⟨by rw [zup_n (by omega)]; exact this.1, this.2.1, by rw [zup_n (by omega)]; exact this.2.2.1, this.2.2.2⟩) Hc
      have H := K1 _ _ e1 e2
      clear e1 e2 Hc K1 K2
      obtain ⟨hr, hh⟩ := i_ir H I_X2_readSlack_48
      rw [hV.2.2.2.2.2.2.2.1] at c_4
      have hT : sT = false := by cases sT <;> simp_all [zbi]
      have e0 : zup m 1 11 1 2 = m 2 := by funext b; rw [zup_n (by omega)]
      rw [e0] at c_28 F_25
      have k1 := zif1 c_28
      obtain ⟨f1, f2, f3, f4, f5, f10⟩ := F_25
      have e2 : M_25 2 = m 2 := (zf49_2 f1).trans e0
      obtain ⟨q1, q2, q3, q4, q5, q6, ⟨a, a1, a2, a3, a4, a5, a6⟩, q8, q9, q10⟩ := hV
      rw [show pSlack (m 2) n (c, g, sT, pT, sb) s p = pEnd (m 2) n (tN (m 2) n p) (c, gset g 16 (tV (m 2) n p - 1), true, pT, sb) by simp [pSlack, hT, k1]]
      rw [f4 k1] at hr F_45
      refine ⟨_, hh, zfC_t (fun a b x y => by rw [zup_n (by omega)]) (zfC_t (zfC_4 f1) (zfC_t (fun a b x y => ?_) (zfC_4 F_45.1))), cR_end (m := m) ?_ hr ?_ (tN_le hq.2.2.2) hq.2.1 F_45⟩
      · rw [zup_n (by omega)]
      · funext b
        rw [zup_n (by omega), e2]
      · refine ⟨by rw [zup_n (by omega), f1 3 2 (by omega), zup_n (by omega)]; exact q1, q2, fun i hi => ?_, ?_, ?_, ?_, ⟨a, a1, ?_, ?_, fun i hi => ?_, a5, ?_⟩, ?_, ?_, ?_⟩
        · obtain ⟨x, y, z⟩ := q3 i hi
          have hi5 : i < 5 := by have : i < c := hi; omega
          refine ⟨?_, ?_, ?_⟩
          · rw [zup_n (by omega), f1 _ _ (by omega), zup_n (by omega)]
            dsimp only
            rw [gset_n (by omega), x]
          · rw [zup_n (by omega), f1 _ _ (by omega), zup_n (by omega)]
            dsimp only
            rw [gset_n (by omega), y]
          · rw [zup_n (by omega), f1 _ _ (by omega), zup_n (by omega)]
            dsimp only
            rw [gset_n (by omega), z]
        · rw [zup_n (by omega), f1 _ _ (by omega), zup_n (by omega)]
          dsimp only
          rw [gset_n (by omega), q4]
        · rw [zup_s]
          dsimp only
          rw [gset_s, Int32.sub_add_cancel]
        · rw [zup_n (by omega), f1 _ _ (by omega), zup_n (by omega)]
          dsimp only
          rw [gset_n (by omega), q6]
        · dsimp only
          rw [gset_n (by omega), a2]
        · rw [zup_n (by omega), f1 _ _ (by omega), zup_n (by omega), a3]
        · rw [zup_n (by omega), f1 _ _ (by omega), zup_n (by omega)]
          dsimp only
          rw [gset_n (by omega), a4 i hi]
        · refine a6.trans (zorf_c (fun i hi => ?_))
          rw [zup_n (by omega), f1 _ _ (by omega), zup_n (by omega)]
        · rw [zup_n (by omega), f1 _ _ (by omega), zup_s]
          rfl
        · rw [zup_n (by omega), f1 _ _ (by omega), zup_n (by omega), q9]
        · rw [zup_n (by omega), f10 k1, zup_n (by omega), q10]
    · skip
      replace H := i_icst (x := 0) (q := 32) H I_X2_readSlack_31 (by decide) rfl
      obtain ⟨hr, hh⟩ := i_ir H I_X2_readSlack_32
      rw [hV.2.2.2.2.2.2.2.1] at c_4
      have hT : sT = false := by cases sT <;> simp_all [zbi]
      have e0 : zup m 1 11 1 2 = m 2 := by funext b; rw [zup_n (by omega)]
      rw [e0] at c_28 F_25
      have k1 := zif0 c_28
      obtain ⟨f1, f2, f3, f4, f5, f10⟩ := F_25
      refine ⟨_, hh, zfC_t (fun a b x y => by rw [zup_n (by omega)]) (zfC_4 f1), ?_⟩
      rw [show pSlack (m 2) n (c, g, sT, pT, sb) s p = .inl (zfn (m 2) n p) by simp [pSlack, hT, k1]]
      exact ⟨hr, f5 k1⟩
  · skip
    replace H := i_aln (q := 8) H I_X2_readSlack_7 rfl rfl
    replace H := i_icst (x := 4) (q := 9) H I_X2_readSlack_8 (by decide) rfl
    replace H := i_aln (q := 10) H I_X2_readSlack_9 rfl rfl
    replace H := i_gfi (q := 13) H I_X2_readSlack_10 G_2_102 cn_X2_readSlack LY_1 rfl rfl
    have W := i_cv2 0 (q := 16) H I_X2_readSlack_13 K_2_74 Zm_27 rfl rfl
    clear H
    obtain ⟨r1, h1, Hc, K1, K2⟩ := W
    obtain ⟨e1, e2⟩ := t_X2_fail Hc
    have H := K1 _ _ e1 e2
    clear e1 e2 Hc K1 K2
    obtain ⟨hr, hh⟩ := i_ir H I_X2_readSlack_16
    rw [hV.2.2.2.2.2.2.2.1] at c_4
    have hT : sT = true := by cases sT <;> simp_all [zbi]
    rw [hs] at hh
    refine ⟨_, hh, fun a b h1 h2 => by rw [zup_n (by omega), zup_n (by omega)], ?_⟩
    rw [show pSlack (m 2) n (c, g, sT, pT, sb) s p = .inl (4, s) by simp [pSlack, hT]]
    exact ⟨hr, by rw [zup_n (by omega), zup_s], by rw [zup_s]⟩
end
