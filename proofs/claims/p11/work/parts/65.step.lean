/-! the reference's tokens -/
theorem It_X8_byteAt : zm_X8_byteAt.2.2.2.2.2 = zt_X8_byteAt := by
  unfold zm_X8_byteAt
  rfl
theorem It_X8_fails : zm_X8_fails.2.2.2.2.2 = zt_X8_fails := by
  unfold zm_X8_fails
  rfl
theorem It_X8_in : zm_X8_in.2.2.2.2.2 = zt_X8_in := by
  unfold zm_X8_in
  rfl
theorem It_X8_step : zm_X8_step.2.2.2.2.2 = zt_X8_step := by
  unfold zm_X8_step
  rfl
theorem I_X8_byteAt_0 : zin zm_X8_byteAt.2.2.2.2.2 0 = some (.iload_n 1, 1) := by rw [It_X8_byteAt]; rfl
theorem I_X8_byteAt_1 : zin zm_X8_byteAt.2.2.2.2.2 1 = some (.aload_n 0, 1) := by rw [It_X8_byteAt]; rfl
theorem I_X8_byteAt_2 : zin zm_X8_byteAt.2.2.2.2.2 2 = some (.getfield 59, 3) := by rw [It_X8_byteAt]; rfl
theorem I_X8_byteAt_5 : zin zm_X8_byteAt.2.2.2.2.2 5 = some (.if_icmp .ge 12, 3) := by rw [It_X8_byteAt]; rfl
theorem I_X8_byteAt_8 : zin zm_X8_byteAt.2.2.2.2.2 8 = some (.aload_n 0, 1) := by rw [It_X8_byteAt]; rfl
theorem I_X8_byteAt_9 : zin zm_X8_byteAt.2.2.2.2.2 9 = some (.getfield 19, 3) := by rw [It_X8_byteAt]; rfl
theorem I_X8_byteAt_12 : zin zm_X8_byteAt.2.2.2.2.2 12 = some (.iload_n 1, 1) := by rw [It_X8_byteAt]; rfl
theorem I_X8_byteAt_13 : zin zm_X8_byteAt.2.2.2.2.2 13 = some (.iaload, 1) := by rw [It_X8_byteAt]; rfl
theorem I_X8_byteAt_14 : zin zm_X8_byteAt.2.2.2.2.2 14 = some (.goto 5, 3) := by rw [It_X8_byteAt]; rfl
theorem I_X8_byteAt_17 : zin zm_X8_byteAt.2.2.2.2.2 17 = some (.bipush (-4), 2) := by rw [It_X8_byteAt]; rfl
theorem I_X8_byteAt_19 : zin zm_X8_byteAt.2.2.2.2.2 19 = some (.ireturn, 1) := by rw [It_X8_byteAt]; rfl
theorem I_X8_fails_0 : zin zm_X8_fails.2.2.2.2.2 0 = some (.aload_n 0, 1) := by rw [It_X8_fails]; rfl
theorem I_X8_fails_1 : zin zm_X8_fails.2.2.2.2.2 1 = some (.getfield 63, 3) := by rw [It_X8_fails]; rfl
theorem I_X8_fails_4 : zin zm_X8_fails.2.2.2.2.2 4 = some (.ifCond .ne 16, 3) := by rw [It_X8_fails]; rfl
theorem I_X8_fails_7 : zin zm_X8_fails.2.2.2.2.2 7 = some (.aload_n 0, 1) := by rw [It_X8_fails]; rfl
theorem I_X8_fails_8 : zin zm_X8_fails.2.2.2.2.2 8 = some (.iload_n 1, 1) := by rw [It_X8_fails]; rfl
theorem I_X8_fails_9 : zin zm_X8_fails.2.2.2.2.2 9 = some (.putfield 63, 3) := by rw [It_X8_fails]; rfl
theorem I_X8_fails_12 : zin zm_X8_fails.2.2.2.2.2 12 = some (.aload_n 0, 1) := by rw [It_X8_fails]; rfl
theorem I_X8_fails_13 : zin zm_X8_fails.2.2.2.2.2 13 = some (.aload_n 0, 1) := by rw [It_X8_fails]; rfl
theorem I_X8_fails_14 : zin zm_X8_fails.2.2.2.2.2 14 = some (.getfield 66, 3) := by rw [It_X8_fails]; rfl
theorem I_X8_fails_17 : zin zm_X8_fails.2.2.2.2.2 17 = some (.putfield 69, 3) := by rw [It_X8_fails]; rfl
theorem I_X8_fails_20 : zin zm_X8_fails.2.2.2.2.2 20 = some (.return_, 1) := by rw [It_X8_fails]; rfl
theorem I_X8_in_0 : zin zm_X8_in.2.2.2.2.2 0 = some (.lload_n 0, 1) := by rw [It_X8_in]; rfl
theorem I_X8_in_1 : zin zm_X8_in.2.2.2.2.2 1 = some (.lload_n 2, 1) := by rw [It_X8_in]; rfl
theorem I_X8_in_2 : zin zm_X8_in.2.2.2.2.2 2 = some (.lcmp, 1) := by rw [It_X8_in]; rfl
theorem I_X8_in_3 : zin zm_X8_in.2.2.2.2.2 3 = some (.ifCond .lt 14, 3) := by rw [It_X8_in]; rfl
theorem I_X8_in_6 : zin zm_X8_in.2.2.2.2.2 6 = some (.lload_n 0, 1) := by rw [It_X8_in]; rfl
theorem I_X8_in_7 : zin zm_X8_in.2.2.2.2.2 7 = some (.lload 4, 2) := by rw [It_X8_in]; rfl
theorem I_X8_in_9 : zin zm_X8_in.2.2.2.2.2 9 = some (.lcmp, 1) := by rw [It_X8_in]; rfl
theorem I_X8_in_10 : zin zm_X8_in.2.2.2.2.2 10 = some (.ifCond .gt 7, 3) := by rw [It_X8_in]; rfl
theorem I_X8_in_13 : zin zm_X8_in.2.2.2.2.2 13 = some (.iconst 1, 1) := by rw [It_X8_in]; rfl
theorem I_X8_in_14 : zin zm_X8_in.2.2.2.2.2 14 = some (.goto 4, 3) := by rw [It_X8_in]; rfl
theorem I_X8_in_17 : zin zm_X8_in.2.2.2.2.2 17 = some (.iconst 0, 1) := by rw [It_X8_in]; rfl
theorem I_X8_in_18 : zin zm_X8_in.2.2.2.2.2 18 = some (.ireturn, 1) := by rw [It_X8_in]; rfl
theorem I_X8_step_0 : zin zm_X8_step.2.2.2.2.2 0 = some (.aload_n 0, 1) := by rw [It_X8_step]; rfl
theorem I_X8_step_1 : zin zm_X8_step.2.2.2.2.2 1 = some (.getfield 63, 3) := by rw [It_X8_step]; rfl
theorem I_X8_step_4 : zin zm_X8_step.2.2.2.2.2 4 = some (.ifCond .le 4, 3) := by rw [It_X8_step]; rfl
theorem I_X8_step_7 : zin zm_X8_step.2.2.2.2.2 7 = some (.return_, 1) := by rw [It_X8_step]; rfl
theorem I_X8_step_8 : zin zm_X8_step.2.2.2.2.2 8 = some (.aload_n 0, 1) := by rw [It_X8_step]; rfl
theorem I_X8_step_9 : zin zm_X8_step.2.2.2.2.2 9 = some (.aload_n 0, 1) := by rw [It_X8_step]; rfl
theorem I_X8_step_10 : zin zm_X8_step.2.2.2.2.2 10 = some (.getfield 75, 3) := by rw [It_X8_step]; rfl
theorem I_X8_step_13 : zin zm_X8_step.2.2.2.2.2 13 = some (.invokevirtual 78, 3) := by rw [It_X8_step]; rfl
theorem I_X8_step_16 : zin zm_X8_step.2.2.2.2.2 16 = some (.bipush 32, 2) := by rw [It_X8_step]; rfl
theorem I_X8_step_18 : zin zm_X8_step.2.2.2.2.2 18 = some (.if_icmp .ne 16, 3) := by rw [It_X8_step]; rfl
theorem I_X8_step_21 : zin zm_X8_step.2.2.2.2.2 21 = some (.aload_n 0, 1) := by rw [It_X8_step]; rfl
theorem I_X8_step_22 : zin zm_X8_step.2.2.2.2.2 22 = some (.dup, 1) := by rw [It_X8_step]; rfl
theorem I_X8_step_23 : zin zm_X8_step.2.2.2.2.2 23 = some (.getfield 75, 3) := by rw [It_X8_step]; rfl
theorem I_X8_step_26 : zin zm_X8_step.2.2.2.2.2 26 = some (.iconst 1, 1) := by rw [It_X8_step]; rfl
theorem I_X8_step_27 : zin zm_X8_step.2.2.2.2.2 27 = some (.iadd, 1) := by rw [It_X8_step]; rfl
theorem I_X8_step_28 : zin zm_X8_step.2.2.2.2.2 28 = some (.putfield 75, 3) := by rw [It_X8_step]; rfl
theorem I_X8_step_31 : zin zm_X8_step.2.2.2.2.2 31 = some (.goto (-23), 3) := by rw [It_X8_step]; rfl
theorem I_X8_step_34 : zin zm_X8_step.2.2.2.2.2 34 = some (.aload_n 0, 1) := by rw [It_X8_step]; rfl
theorem I_X8_step_35 : zin zm_X8_step.2.2.2.2.2 35 = some (.aload_n 0, 1) := by rw [It_X8_step]; rfl
theorem I_X8_step_36 : zin zm_X8_step.2.2.2.2.2 36 = some (.getfield 75, 3) := by rw [It_X8_step]; rfl
theorem I_X8_step_39 : zin zm_X8_step.2.2.2.2.2 39 = some (.putfield 66, 3) := by rw [It_X8_step]; rfl
theorem I_X8_step_42 : zin zm_X8_step.2.2.2.2.2 42 = some (.aload_n 0, 1) := by rw [It_X8_step]; rfl
theorem I_X8_step_43 : zin zm_X8_step.2.2.2.2.2 43 = some (.aload_n 0, 1) := by rw [It_X8_step]; rfl
theorem I_X8_step_44 : zin zm_X8_step.2.2.2.2.2 44 = some (.getfield 75, 3) := by rw [It_X8_step]; rfl
theorem I_X8_step_47 : zin zm_X8_step.2.2.2.2.2 47 = some (.invokevirtual 78, 3) := by rw [It_X8_step]; rfl
theorem I_X8_step_50 : zin zm_X8_step.2.2.2.2.2 50 = some (.istore_n 1, 1) := by rw [It_X8_step]; rfl
theorem I_X8_step_51 : zin zm_X8_step.2.2.2.2.2 51 = some (.aload_n 0, 1) := by rw [It_X8_step]; rfl
theorem I_X8_step_52 : zin zm_X8_step.2.2.2.2.2 52 = some (.iconst 0, 1) := by rw [It_X8_step]; rfl
theorem I_X8_step_53 : zin zm_X8_step.2.2.2.2.2 53 = some (.putfield 82, 3) := by rw [It_X8_step]; rfl
theorem I_X8_step_56 : zin zm_X8_step.2.2.2.2.2 56 = some (.iload_n 1, 1) := by rw [It_X8_step]; rfl
theorem I_X8_step_57 : zin zm_X8_step.2.2.2.2.2 57 = some (.bipush (-4), 2) := by rw [It_X8_step]; rfl
theorem I_X8_step_59 : zin zm_X8_step.2.2.2.2.2 59 = some (.if_icmp .ne 11, 3) := by rw [It_X8_step]; rfl
theorem I_X8_step_62 : zin zm_X8_step.2.2.2.2.2 62 = some (.aload_n 0, 1) := by rw [It_X8_step]; rfl
theorem I_X8_step_63 : zin zm_X8_step.2.2.2.2.2 63 = some (.iconst 0, 1) := by rw [It_X8_step]; rfl
theorem I_X8_step_64 : zin zm_X8_step.2.2.2.2.2 64 = some (.putfield 72, 3) := by rw [It_X8_step]; rfl
theorem I_X8_step_67 : zin zm_X8_step.2.2.2.2.2 67 = some (.goto 202, 3) := by rw [It_X8_step]; rfl
theorem I_X8_step_70 : zin zm_X8_step.2.2.2.2.2 70 = some (.iload_n 1, 1) := by rw [It_X8_step]; rfl
theorem I_X8_step_71 : zin zm_X8_step.2.2.2.2.2 71 = some (.i2l, 1) := by rw [It_X8_step]; rfl
theorem I_X8_step_72 : zin zm_X8_step.2.2.2.2.2 72 = some (.ldc2_w 85, 3) := by rw [It_X8_step]; rfl
theorem I_X8_step_75 : zin zm_X8_step.2.2.2.2.2 75 = some (.ldc2_w 87, 3) := by rw [It_X8_step]; rfl
theorem I_X8_step_78 : zin zm_X8_step.2.2.2.2.2 78 = some (.invokestatic 55, 3) := by rw [It_X8_step]; rfl
theorem I_X8_step_81 : zin zm_X8_step.2.2.2.2.2 81 = some (.ifCond .eq 45, 3) := by rw [It_X8_step]; rfl
theorem I_X8_step_84 : zin zm_X8_step.2.2.2.2.2 84 = some (.aload_n 0, 1) := by rw [It_X8_step]; rfl
theorem I_X8_step_85 : zin zm_X8_step.2.2.2.2.2 85 = some (.aload_n 0, 1) := by rw [It_X8_step]; rfl
theorem I_X8_step_86 : zin zm_X8_step.2.2.2.2.2 86 = some (.getfield 75, 3) := by rw [It_X8_step]; rfl
theorem I_X8_step_89 : zin zm_X8_step.2.2.2.2.2 89 = some (.invokevirtual 78, 3) := by rw [It_X8_step]; rfl
theorem I_X8_step_92 : zin zm_X8_step.2.2.2.2.2 92 = some (.i2l, 1) := by rw [It_X8_step]; rfl
theorem I_X8_step_93 : zin zm_X8_step.2.2.2.2.2 93 = some (.ldc2_w 85, 3) := by rw [It_X8_step]; rfl
theorem I_X8_step_96 : zin zm_X8_step.2.2.2.2.2 96 = some (.ldc2_w 87, 3) := by rw [It_X8_step]; rfl
theorem I_X8_step_99 : zin zm_X8_step.2.2.2.2.2 99 = some (.invokestatic 55, 3) := by rw [It_X8_step]; rfl
theorem I_X8_step_102 : zin zm_X8_step.2.2.2.2.2 102 = some (.ifCond .eq 16, 3) := by rw [It_X8_step]; rfl
theorem I_X8_step_105 : zin zm_X8_step.2.2.2.2.2 105 = some (.aload_n 0, 1) := by rw [It_X8_step]; rfl
theorem I_X8_step_106 : zin zm_X8_step.2.2.2.2.2 106 = some (.dup, 1) := by rw [It_X8_step]; rfl
theorem I_X8_step_107 : zin zm_X8_step.2.2.2.2.2 107 = some (.getfield 75, 3) := by rw [It_X8_step]; rfl
theorem I_X8_step_110 : zin zm_X8_step.2.2.2.2.2 110 = some (.iconst 1, 1) := by rw [It_X8_step]; rfl
theorem I_X8_step_111 : zin zm_X8_step.2.2.2.2.2 111 = some (.iadd, 1) := by rw [It_X8_step]; rfl
theorem I_X8_step_112 : zin zm_X8_step.2.2.2.2.2 112 = some (.putfield 75, 3) := by rw [It_X8_step]; rfl
theorem I_X8_step_115 : zin zm_X8_step.2.2.2.2.2 115 = some (.goto (-31), 3) := by rw [It_X8_step]; rfl
theorem I_X8_step_118 : zin zm_X8_step.2.2.2.2.2 118 = some (.aload_n 0, 1) := by rw [It_X8_step]; rfl
theorem I_X8_step_119 : zin zm_X8_step.2.2.2.2.2 119 = some (.iconst 1, 1) := by rw [It_X8_step]; rfl
theorem I_X8_step_120 : zin zm_X8_step.2.2.2.2.2 120 = some (.putfield 72, 3) := by rw [It_X8_step]; rfl
theorem I_X8_step_123 : zin zm_X8_step.2.2.2.2.2 123 = some (.goto 146, 3) := by rw [It_X8_step]; rfl
theorem I_X8_step_126 : zin zm_X8_step.2.2.2.2.2 126 = some (.iload_n 1, 1) := by rw [It_X8_step]; rfl
theorem I_X8_step_127 : zin zm_X8_step.2.2.2.2.2 127 = some (.i2l, 1) := by rw [It_X8_step]; rfl
theorem I_X8_step_128 : zin zm_X8_step.2.2.2.2.2 128 = some (.ldc2_w 89, 3) := by rw [It_X8_step]; rfl
theorem I_X8_step_131 : zin zm_X8_step.2.2.2.2.2 131 = some (.ldc2_w 91, 3) := by rw [It_X8_step]; rfl
theorem I_X8_step_134 : zin zm_X8_step.2.2.2.2.2 134 = some (.invokestatic 55, 3) := by rw [It_X8_step]; rfl
theorem I_X8_step_137 : zin zm_X8_step.2.2.2.2.2 137 = some (.ifCond .eq 106, 3) := by rw [It_X8_step]; rfl
theorem I_X8_step_140 : zin zm_X8_step.2.2.2.2.2 140 = some (.aload_n 0, 1) := by rw [It_X8_step]; rfl
theorem I_X8_step_141 : zin zm_X8_step.2.2.2.2.2 141 = some (.aload_n 0, 1) := by rw [It_X8_step]; rfl
theorem I_X8_step_142 : zin zm_X8_step.2.2.2.2.2 142 = some (.getfield 75, 3) := by rw [It_X8_step]; rfl
theorem I_X8_step_145 : zin zm_X8_step.2.2.2.2.2 145 = some (.invokevirtual 78, 3) := by rw [It_X8_step]; rfl
theorem I_X8_step_148 : zin zm_X8_step.2.2.2.2.2 148 = some (.i2l, 1) := by rw [It_X8_step]; rfl
theorem I_X8_step_149 : zin zm_X8_step.2.2.2.2.2 149 = some (.ldc2_w 89, 3) := by rw [It_X8_step]; rfl
theorem I_X8_step_152 : zin zm_X8_step.2.2.2.2.2 152 = some (.ldc2_w 91, 3) := by rw [It_X8_step]; rfl
theorem I_X8_step_155 : zin zm_X8_step.2.2.2.2.2 155 = some (.invokestatic 55, 3) := by rw [It_X8_step]; rfl
theorem I_X8_step_158 : zin zm_X8_step.2.2.2.2.2 158 = some (.ifCond .eq 59, 3) := by rw [It_X8_step]; rfl
theorem I_X8_step_161 : zin zm_X8_step.2.2.2.2.2 161 = some (.aload_n 0, 1) := by rw [It_X8_step]; rfl
theorem I_X8_step_162 : zin zm_X8_step.2.2.2.2.2 162 = some (.aload_n 0, 1) := by rw [It_X8_step]; rfl
theorem I_X8_step_163 : zin zm_X8_step.2.2.2.2.2 163 = some (.getfield 75, 3) := by rw [It_X8_step]; rfl
theorem I_X8_step_166 : zin zm_X8_step.2.2.2.2.2 166 = some (.aload_n 0, 1) := by rw [It_X8_step]; rfl
theorem I_X8_step_167 : zin zm_X8_step.2.2.2.2.2 167 = some (.getfield 66, 3) := by rw [It_X8_step]; rfl
theorem I_X8_step_170 : zin zm_X8_step.2.2.2.2.2 170 = some (.isub, 1) := by rw [It_X8_step]; rfl
theorem I_X8_step_171 : zin zm_X8_step.2.2.2.2.2 171 = some (.iconst 2, 1) := by rw [It_X8_step]; rfl
theorem I_X8_step_172 : zin zm_X8_step.2.2.2.2.2 172 = some (.if_icmp .ge 25, 3) := by rw [It_X8_step]; rfl
theorem I_X8_step_175 : zin zm_X8_step.2.2.2.2.2 175 = some (.bipush 10, 2) := by rw [It_X8_step]; rfl
theorem I_X8_step_177 : zin zm_X8_step.2.2.2.2.2 177 = some (.aload_n 0, 1) := by rw [It_X8_step]; rfl
theorem I_X8_step_178 : zin zm_X8_step.2.2.2.2.2 178 = some (.getfield 82, 3) := by rw [It_X8_step]; rfl
theorem I_X8_step_181 : zin zm_X8_step.2.2.2.2.2 181 = some (.imul, 1) := by rw [It_X8_step]; rfl
theorem I_X8_step_182 : zin zm_X8_step.2.2.2.2.2 182 = some (.aload_n 0, 1) := by rw [It_X8_step]; rfl
theorem I_X8_step_183 : zin zm_X8_step.2.2.2.2.2 183 = some (.aload_n 0, 1) := by rw [It_X8_step]; rfl
theorem I_X8_step_184 : zin zm_X8_step.2.2.2.2.2 184 = some (.getfield 75, 3) := by rw [It_X8_step]; rfl
theorem I_X8_step_187 : zin zm_X8_step.2.2.2.2.2 187 = some (.invokevirtual 78, 3) := by rw [It_X8_step]; rfl
theorem I_X8_step_190 : zin zm_X8_step.2.2.2.2.2 190 = some (.iadd, 1) := by rw [It_X8_step]; rfl
theorem I_X8_step_191 : zin zm_X8_step.2.2.2.2.2 191 = some (.bipush 48, 2) := by rw [It_X8_step]; rfl
theorem I_X8_step_193 : zin zm_X8_step.2.2.2.2.2 193 = some (.isub, 1) := by rw [It_X8_step]; rfl
theorem I_X8_step_194 : zin zm_X8_step.2.2.2.2.2 194 = some (.goto 7, 3) := by rw [It_X8_step]; rfl
theorem I_X8_step_197 : zin zm_X8_step.2.2.2.2.2 197 = some (.aload_n 0, 1) := by rw [It_X8_step]; rfl
theorem I_X8_step_198 : zin zm_X8_step.2.2.2.2.2 198 = some (.getfield 82, 3) := by rw [It_X8_step]; rfl
theorem I_X8_step_201 : zin zm_X8_step.2.2.2.2.2 201 = some (.putfield 82, 3) := by rw [It_X8_step]; rfl
theorem I_X8_step_204 : zin zm_X8_step.2.2.2.2.2 204 = some (.aload_n 0, 1) := by rw [It_X8_step]; rfl
theorem I_X8_step_205 : zin zm_X8_step.2.2.2.2.2 205 = some (.dup, 1) := by rw [It_X8_step]; rfl
theorem I_X8_step_206 : zin zm_X8_step.2.2.2.2.2 206 = some (.getfield 75, 3) := by rw [It_X8_step]; rfl
theorem I_X8_step_209 : zin zm_X8_step.2.2.2.2.2 209 = some (.iconst 1, 1) := by rw [It_X8_step]; rfl
theorem I_X8_step_210 : zin zm_X8_step.2.2.2.2.2 210 = some (.iadd, 1) := by rw [It_X8_step]; rfl
theorem I_X8_step_211 : zin zm_X8_step.2.2.2.2.2 211 = some (.putfield 75, 3) := by rw [It_X8_step]; rfl
theorem I_X8_step_214 : zin zm_X8_step.2.2.2.2.2 214 = some (.goto (-74), 3) := by rw [It_X8_step]; rfl
theorem I_X8_step_217 : zin zm_X8_step.2.2.2.2.2 217 = some (.aload_n 0, 1) := by rw [It_X8_step]; rfl
theorem I_X8_step_218 : zin zm_X8_step.2.2.2.2.2 218 = some (.iconst 2, 1) := by rw [It_X8_step]; rfl
theorem I_X8_step_219 : zin zm_X8_step.2.2.2.2.2 219 = some (.putfield 72, 3) := by rw [It_X8_step]; rfl
theorem I_X8_step_222 : zin zm_X8_step.2.2.2.2.2 222 = some (.aload_n 0, 1) := by rw [It_X8_step]; rfl
theorem I_X8_step_223 : zin zm_X8_step.2.2.2.2.2 223 = some (.getfield 75, 3) := by rw [It_X8_step]; rfl
theorem I_X8_step_226 : zin zm_X8_step.2.2.2.2.2 226 = some (.aload_n 0, 1) := by rw [It_X8_step]; rfl
theorem I_X8_step_227 : zin zm_X8_step.2.2.2.2.2 227 = some (.getfield 66, 3) := by rw [It_X8_step]; rfl
theorem I_X8_step_230 : zin zm_X8_step.2.2.2.2.2 230 = some (.isub, 1) := by rw [It_X8_step]; rfl
theorem I_X8_step_231 : zin zm_X8_step.2.2.2.2.2 231 = some (.iconst 2, 1) := by rw [It_X8_step]; rfl
theorem I_X8_step_232 : zin zm_X8_step.2.2.2.2.2 232 = some (.if_icmp .le 37, 3) := by rw [It_X8_step]; rfl
theorem I_X8_step_235 : zin zm_X8_step.2.2.2.2.2 235 = some (.aload_n 0, 1) := by rw [It_X8_step]; rfl
theorem I_X8_step_236 : zin zm_X8_step.2.2.2.2.2 236 = some (.iconst 1, 1) := by rw [It_X8_step]; rfl
theorem I_X8_step_237 : zin zm_X8_step.2.2.2.2.2 237 = some (.invokevirtual 93, 3) := by rw [It_X8_step]; rfl
theorem I_X8_step_240 : zin zm_X8_step.2.2.2.2.2 240 = some (.goto 29, 3) := by rw [It_X8_step]; rfl
theorem I_X8_step_243 : zin zm_X8_step.2.2.2.2.2 243 = some (.aload_n 0, 1) := by rw [It_X8_step]; rfl
theorem I_X8_step_244 : zin zm_X8_step.2.2.2.2.2 244 = some (.iconst 3, 1) := by rw [It_X8_step]; rfl
theorem I_X8_step_245 : zin zm_X8_step.2.2.2.2.2 245 = some (.putfield 72, 3) := by rw [It_X8_step]; rfl
theorem I_X8_step_248 : zin zm_X8_step.2.2.2.2.2 248 = some (.aload_n 0, 1) := by rw [It_X8_step]; rfl
theorem I_X8_step_249 : zin zm_X8_step.2.2.2.2.2 249 = some (.dup, 1) := by rw [It_X8_step]; rfl
theorem I_X8_step_250 : zin zm_X8_step.2.2.2.2.2 250 = some (.getfield 75, 3) := by rw [It_X8_step]; rfl
theorem I_X8_step_253 : zin zm_X8_step.2.2.2.2.2 253 = some (.iconst 1, 1) := by rw [It_X8_step]; rfl
theorem I_X8_step_254 : zin zm_X8_step.2.2.2.2.2 254 = some (.iadd, 1) := by rw [It_X8_step]; rfl
theorem I_X8_step_255 : zin zm_X8_step.2.2.2.2.2 255 = some (.putfield 75, 3) := by rw [It_X8_step]; rfl
theorem I_X8_step_258 : zin zm_X8_step.2.2.2.2.2 258 = some (.iload_n 1, 1) := by rw [It_X8_step]; rfl
theorem I_X8_step_259 : zin zm_X8_step.2.2.2.2.2 259 = some (.bipush 59, 2) := by rw [It_X8_step]; rfl
theorem I_X8_step_261 : zin zm_X8_step.2.2.2.2.2 261 = some (.if_icmp .eq 8, 3) := by rw [It_X8_step]; rfl
theorem I_X8_step_264 : zin zm_X8_step.2.2.2.2.2 264 = some (.aload_n 0, 1) := by rw [It_X8_step]; rfl
theorem I_X8_step_265 : zin zm_X8_step.2.2.2.2.2 265 = some (.iconst 1, 1) := by rw [It_X8_step]; rfl
theorem I_X8_step_266 : zin zm_X8_step.2.2.2.2.2 266 = some (.invokevirtual 93, 3) := by rw [It_X8_step]; rfl
theorem I_X8_step_269 : zin zm_X8_step.2.2.2.2.2 269 = some (.return_, 1) := by rw [It_X8_step]; rfl
theorem G_8_19 : zlk zfls 8 19 = some (8, 7, 848) := rfl
theorem G_8_59 : zlk zfls 8 59 = some (8, 8, 849) := rfl
theorem G_8_63 : zlk zfls 8 63 = some (8, 10, 851) := rfl
theorem G_8_66 : zlk zfls 8 66 = some (8, 13, 854) := rfl
theorem G_8_69 : zlk zfls 8 69 = some (8, 11, 852) := rfl
theorem G_8_72 : zlk zfls 8 72 = some (8, 14, 855) := rfl
theorem G_8_75 : zlk zfls 8 75 = some (8, 12, 853) := rfl
theorem G_8_82 : zlk zfls 8 82 = some (8, 15, 856) := rfl
theorem K_8_55 : zlk zmls 8 55 = some (1, 114, 3, 940) := rfl
theorem K_8_78 : zlk zmls 8 78 = some (0, 117, 1, 955) := rfl
theorem K_8_93 : zlk zmls 8 93 = some (0, 118, 1, 963) := rfl
theorem Zm_114 : zms[114]? = some zm_X8_in := rfl
theorem Zm_117 : zms[117]? = some zm_X8_byteAt := rfl
theorem Zm_118 : zms[118]? = some zm_X8_fails := rfl
theorem LY_71 : zLY[71]? = some (Sum.inr 8, [some (.ref 72), some (.ref 73), none, some (.ref 74), none, none, none, some (.ref 75), none, none, none, none, none, none, none, none, some (.ref 76), some (.ref 77), none, none, none, some (.ref 78), some (.ref 79), none, some (.ref 80), some (.ref 81), some (.ref 82), some (.ref 83), some (.ref 84), some (.ref 85), none]) := rfl
theorem LY_75 : zLY[75]? = some (Sum.inl 0, List.replicate 160 none) := rfl
theorem J_8_85 : zlk zcJs 8 85 = some (97, 959) := rfl
theorem J_8_87 : zlk zcJs 8 87 = some (122, 960) := rfl
theorem J_8_89 : zlk zcJs 8 89 = some (48, 961) := rfl
theorem J_8_91 : zlk zcJs 8 91 = some (57, 962) := rfl
theorem cl_X8_byteAt : zm_X8_byteAt.2.2.2.2.1 = 8 := by
  unfold zm_X8_byteAt
  rfl
theorem cn_X8_byteAt : zm_X8_byteAt.2.2.2.2.1 ≠ 12 := by
  rw [cl_X8_byteAt]
  decide
theorem cn2_X8_byteAt : zm_X8_byteAt.2.2.2.2.1 ≠ 2 := by
  rw [cl_X8_byteAt]
  decide
theorem cl_X8_fails : zm_X8_fails.2.2.2.2.1 = 8 := by
  unfold zm_X8_fails
  rfl
theorem cn_X8_fails : zm_X8_fails.2.2.2.2.1 ≠ 12 := by
  rw [cl_X8_fails]
  decide
theorem cn2_X8_fails : zm_X8_fails.2.2.2.2.1 ≠ 2 := by
  rw [cl_X8_fails]
  decide
theorem cl_X8_step : zm_X8_step.2.2.2.2.1 = 8 := by
  unfold zm_X8_step
  rfl
theorem cn_X8_step : zm_X8_step.2.2.2.2.1 ≠ 12 := by
  rw [cl_X8_step]
  decide
theorem cn2_X8_step : zm_X8_step.2.2.2.2.1 ≠ 2 := by
  rw [cl_X8_step]
  decide
def zin64 (a b c : Int64) : Int32 := if a < b then 0 else if c < a then 0 else 1
theorem lgc_lt {x y : Int64} : lg_cmp x y < 0 ↔ x < y := by
  unfold lg_cmp
  by_cases h1 : x > y
  · rw [if_pos h1]
    have := Int64.lt_iff_toInt_lt.mp h1
    exact ⟨fun w => absurd w (by decide), fun w => by have := Int64.lt_iff_toInt_lt.mp w; omega⟩
  · rw [if_neg h1]
    by_cases h2 : x = y
    · rw [if_pos h2]
      subst h2
      exact ⟨fun w => absurd w (by decide), fun w => by have := Int64.lt_iff_toInt_lt.mp w; omega⟩
    · rw [if_neg h2]
      refine ⟨fun _ => ?_, fun _ => by decide⟩
      rw [Int64.lt_iff_toInt_lt]
      have h3 : ¬ y.toInt < x.toInt := fun w => h1 (Int64.lt_iff_toInt_lt.mpr w)
      have h4 : ¬ x.toInt = y.toInt := fun w => h2 (Int64.toInt_inj.mp w)
      omega
theorem lgc_gt {x y : Int64} : 0 < lg_cmp x y ↔ y < x := by
  unfold lg_cmp
  by_cases h1 : x > y
  · rw [if_pos h1]
    exact ⟨fun _ => h1, fun _ => by decide⟩
  · rw [if_neg h1]
    by_cases h2 : x = y
    · rw [if_pos h2]
      exact ⟨fun w => absurd w (by decide), fun w => absurd w h1⟩
    · rw [if_neg h2]
      exact ⟨fun w => absurd w (by decide), fun w => absurd w h1⟩
theorem t_X8_in {d : Nat} {m : zM} {r : Option Value} {h' : zHp} {a b c : Int64} (H : zE none d zm_X8_in 0 [.long a, .null, .long b, .null, .long c, .null] [] m r h') : r = some (.int (zin64 a b c)) ∧ h' = zhp m := by
  replace H := i_lln (q := 1) H I_X8_in_0 rfl rfl
  replace H := i_lln (q := 2) H I_X8_in_1 rfl rfl
  replace H := i_lcmp (q := 3) H I_X8_in_2 rfl
  have W := i_if_lt (t := 17) (q := 6) H I_X8_in_3 (by decide) rfl
  clear H
  rcases W with ⟨c_3, H⟩ | ⟨c_3, H⟩
  · skip
    replace H := i_icst (x := 0) (q := 18) H I_X8_in_17 (by decide) rfl
    obtain ⟨hr, hh⟩ := i_ir H I_X8_in_18
    refine ⟨hr.trans ?_, hh⟩
    simp only [lgc_lt, lgc_gt] at *
    simp [zin64, *]
  · skip
    replace H := i_lln (q := 7) H I_X8_in_6 rfl rfl
    replace H := i_ll (q := 9) H I_X8_in_7 rfl rfl
    replace H := i_lcmp (q := 10) H I_X8_in_9 rfl
    have W := i_if_gt (t := 17) (q := 13) H I_X8_in_10 (by decide) rfl
    clear H
    rcases W with ⟨c_10, H⟩ | ⟨c_10, H⟩
    · skip
      replace H := i_icst (x := 0) (q := 18) H I_X8_in_17 (by decide) rfl
      obtain ⟨hr, hh⟩ := i_ir H I_X8_in_18
      refine ⟨hr.trans ?_, hh⟩
      simp only [lgc_lt, lgc_gt] at *
      simp [zin64, *]
    · skip
      replace H := i_icst (x := 1) (q := 14) H I_X8_in_13 (by decide) rfl
      replace H := i_goto (q := 18) H I_X8_in_14 (by decide)
      obtain ⟨hr, hh⟩ := i_ir H I_X8_in_18
      refine ⟨hr.trans ?_, hh⟩
      simp only [lgc_lt, lgc_gt] at *
      simp [zin64, *]
theorem i_in {sc : Option (List Int32)} {d : Nat} {mi : zMi} {pc q : Nat} {L sk : List Value} {m : zM} {r : Option Value} {h' : zHp} {i e : Nat} {a b c : Int64} (H : zE sc d mi pc L (.long c :: .long b :: .long a :: sk) m r h') (hi : zin mi.2.2.2.2.2 pc = some (.invokestatic i, 3)) (hf : zlk zmls mi.2.2.2.2.1 i = some (1, 114, 3, e)) (hq : pc + 3 = q) : zE sc d mi q L (.int (zin64 a b c) :: sk) m r h' := by
  obtain ⟨lo, h1, h2⟩ := H
  obtain ⟨y, hy⟩ := zEv_is h2
  have hy0 := hy
  rw [zstep_of hi] at hy
  simp [zst, zg, hf, Option.bind_eq_some_iff] at hy
  obtain ⟨_, hy⟩ := hy
  subst hq
  rw [← hy] at hy0
  obtain ⟨r1, g1, x1, x2⟩ := zEv_ic h2 hy0 Zm_114
  have H1 : zE none (d - 1) zm_X8_in 0 [.long a, .null, .long b, .null, .long c, .null] [] m r1 g1 := ⟨_, fun k v hk hn => by
    match k, hk with
    | 0, hk => cases hk; rfl
    | 1, hk => cases hk; exact absurd rfl hn
    | 2, hk => cases hk; rfl
    | 3, hk => cases hk; exact absurd rfl hn
    | 4, hk => cases hk; rfl
    | 5, hk => cases hk; exact absurd rfl hn
    | k + 6, hk => simp at hk, x1⟩
  obtain ⟨rfl, rfl⟩ := t_X8_in H1
  exact ⟨lo, h1, x2⟩
theorem zin_32 {x : Int32} {a b : Int64} : zin64 x.toInt64 a b = if a.toInt ≤ x.toInt ∧ x.toInt ≤ b.toInt then 1 else 0 := by
  simp only [zin64, Int64.lt_iff_toInt_lt, Int32.toInt_toInt64]
  by_cases h1 : x.toInt < a.toInt
  · rw [if_pos h1, if_neg (by omega)]
  · rw [if_neg h1]
    by_cases h2 : b.toInt < x.toInt
    · rw [if_pos h2, if_neg (by omega)]
    · rw [if_neg h2, if_pos (by omega)]
theorem zin_lt {x : Int32} : zin64 x.toInt64 97 122 = if zlt x = true then 1 else 0 := by
  rw [zin_32]
  simp only [zlt, Bool.and_eq_true, decide_eq_true_eq, Int32.lt_iff_toInt_lt, Int.not_lt]
  rfl
theorem zin_dg {x : Int32} : zin64 x.toInt64 48 57 = if zdg x = true then 1 else 0 := by
  rw [zin_32]
  simp only [zdg, Bool.and_eq_true, decide_eq_true_eq, Int32.lt_iff_toInt_lt, Int.not_lt]
  rfl
theorem t_X8_fails {d : Nat} {m : zM} {r : Option Value} {h' : zHp} {c : Int32}  (H : zE none d zm_X8_fails 0 [.ref 71, .int c] [] m r h') : r = none ∧ h' = zhp (if m 71 10 = 0 then zup (zup m 71 10 c) 71 11 (m 71 13) else m) := by
  replace H := i_aln (q := 1) H I_X8_fails_0 rfl rfl
  replace H := i_gfi (q := 4) H I_X8_fails_1 G_8_63 cn_X8_fails LY_71 rfl rfl
  have W := i_if_ne (t := 20) (q := 7) H I_X8_fails_4 (by decide) rfl
  clear H
  rcases W with ⟨c_4, H⟩ | ⟨c_4, H⟩
  · skip
    obtain ⟨hr, hh⟩ := i_rt H I_X8_fails_20
    refine ⟨hr, hh.trans ?_⟩
    simp [*, zup_n]
  · skip
    replace H := i_aln (q := 8) H I_X8_fails_7 rfl rfl
    replace H := i_iln (q := 9) H I_X8_fails_8 rfl rfl
    replace H := i_pf (q := 12) H I_X8_fails_9 G_8_63 cn_X8_fails LY_71 rfl rfl
    replace H := i_aln (q := 13) H I_X8_fails_12 rfl rfl
    replace H := i_aln (q := 14) H I_X8_fails_13 rfl rfl
    replace H := i_gfi (q := 17) H I_X8_fails_14 G_8_66 cn_X8_fails LY_71 rfl rfl
    replace H := i_pf (q := 20) H I_X8_fails_17 G_8_69 cn_X8_fails LY_71 rfl rfl
    obtain ⟨hr, hh⟩ := i_rt H I_X8_fails_20
    refine ⟨hr, hh.trans ?_⟩
    simp [*, zup_n]
theorem t_X8_byteAt {d : Nat} {m : zM} {r : Option Value} {h' : zHp} {x : Int32} {n p : Nat} (hx : x = Int32.ofNat p) (hp : p ≤ 1000) (hn : m 71 8 = Int32.ofNat n) (hn2 : n ≤ 160) (H : zE none d zm_X8_byteAt 0 [.ref 71, .int x] [] m r h') : r = some (.int (if p < n then m 75 p else -4)) ∧ h' = zhp m := by
  replace H := i_iln (q := 1) H I_X8_byteAt_0 rfl rfl
  replace H := i_aln (q := 2) H I_X8_byteAt_1 rfl rfl
  replace H := i_gfi (q := 5) H I_X8_byteAt_2 G_8_59 cn_X8_byteAt LY_71 rfl rfl
  have W := i_ic_ge (t := 17) (q := 8) H I_X8_byteAt_5 (by decide) rfl
  clear H
  rcases W with ⟨c_5, H⟩ | ⟨c_5, H⟩
  · skip
    replace H := i_bip (x := (-4)) (q := 19) H I_X8_byteAt_17 (by decide) rfl
    obtain ⟨hr, hh⟩ := i_ir H I_X8_byteAt_19
    refine ⟨hr.trans ?_, hh⟩
    rw [hx, hn, zofn_lt (by omega) (by omega)] at c_5
    first
    | (have e := zofn (hx.symm.trans ei_13) (by omega) (by omega); subst e; rw [if_pos c_5])
    | rw [if_neg c_5]
  · skip
    replace H := i_aln (q := 9) H I_X8_byteAt_8 rfl rfl
    replace H := i_gfr (q := 12) H I_X8_byteAt_9 G_8_19 cn_X8_byteAt LY_71 rfl rfl
    replace H := i_iln (q := 13) H I_X8_byteAt_12 rfl rfl
    have W := i_ia (q := 14) H I_X8_byteAt_13 LY_75 rfl
    clear H
    obtain ⟨i_13, bi_13, ei_13, H⟩ := W
    replace H := i_goto (q := 19) H I_X8_byteAt_14 (by decide)
    obtain ⟨hr, hh⟩ := i_ir H I_X8_byteAt_19
    refine ⟨hr.trans ?_, hh⟩
    rw [hx, hn, zofn_lt (by omega) (by omega)] at c_5
    first
    | (have e := zofn (hx.symm.trans ei_13) (by omega) (by omega); subst e; rw [if_pos c_5])
    | rw [if_neg c_5]
/-- what reading a token writes, of the reference -/
def zg1015 (m m1 : zM) : Prop := ∀ a b, ¬ (a = 71 ∧ 10 ≤ b ∧ b ≤ 15) → m1 a b = m a b
theorem st_blank : ∀ (j n p : Nat) (m : zM) (d : Nat) (r : Option Value) (h' : zHp) , n - p = j → m 71 8 = Int32.ofNat n → n ≤ 160 → m 71 12 = Int32.ofNat p → p ≤ n → (∀ i, i < n → ¬ m 75 i = -4) → zE none d zm_X8_step 8 [.ref 71, .null] [] m r h' → ∃ m1, zE none d zm_X8_step 34 [.ref 71, .null] [] m1 r h' ∧ m1 71 12 = Int32.ofNat (tE zsp (m 75) n p) ∧ ∀ a b, ¬ (a = 71 ∧ b = 12) → m1 a b = m a b := by
  intro j
  induction j with
  | zero =>
    intro n p m d r h'  hj hn hn2 hp hpn hb H
    replace H := i_aln (q := 9) H I_X8_step_8 rfl rfl
    replace H := i_aln (q := 10) H I_X8_step_9 rfl rfl
    replace H := i_gfi (q := 13) H I_X8_step_10 G_8_75 cn_X8_step LY_71 rfl rfl
    have W := i_cv1 0 (q := 16) H I_X8_step_13 K_8_78 Zm_117 rfl rfl
    clear H
    obtain ⟨r1, h1, Hc, K1, K2⟩ := W
    obtain ⟨e1, e2⟩ := t_X8_byteAt (x := _) hp (by omega) hn hn2 Hc
    have H := K1 _ _ e1 e2
    clear e1 e2 Hc K1 K2
    replace H := i_bip (x := 32) (q := 18) H I_X8_step_16 (by decide) rfl
    have W := i_ic_ne (t := 34) (q := 21) H I_X8_step_18 (by decide) rfl
    clear H
    rcases W with ⟨c_18, H⟩ | ⟨c_18, H⟩
    · skip
      refine ⟨m, H, ?_, fun a b _ => rfl⟩
      rw [hp]
      rcases Nat.lt_or_ge p n with w | w
      · rw [if_pos w] at c_18
        rw [tE_no (by simpa [zsp] using c_18)]
      · rw [tE_out (by omega)]
    · skip
      replace H := i_aln (q := 22) H I_X8_step_21 rfl rfl
      replace H := i_dup (q := 23) H I_X8_step_22 rfl rfl
      replace H := i_gfi (q := 26) H I_X8_step_23 G_8_75 cn_X8_step LY_71 rfl rfl
      replace H := i_icst (x := 1) (q := 27) H I_X8_step_26 (by decide) rfl
      replace H := i_iadd (q := 28) H I_X8_step_27 rfl
      replace H := i_pf (q := 31) H I_X8_step_28 G_8_75 cn_X8_step LY_71 rfl rfl
      replace H := i_goto (q := 8) H I_X8_step_31 (by decide)
      have hlt : p < n := by
        rcases Nat.lt_or_ge p n with w | w
        · exact w
        · rw [if_neg (by omega)] at c_18
          exact absurd c_18 (by decide)
      rw [if_pos hlt] at c_18
      have hy : zsp (m 75 p) = true := by simpa [zsp] using c_18
      omega
  | succ j ih =>
    intro n p m d r h'  hj hn hn2 hp hpn hb H
    replace H := i_aln (q := 9) H I_X8_step_8 rfl rfl
    replace H := i_aln (q := 10) H I_X8_step_9 rfl rfl
    replace H := i_gfi (q := 13) H I_X8_step_10 G_8_75 cn_X8_step LY_71 rfl rfl
    have W := i_cv1 0 (q := 16) H I_X8_step_13 K_8_78 Zm_117 rfl rfl
    clear H
    obtain ⟨r1, h1, Hc, K1, K2⟩ := W
    obtain ⟨e1, e2⟩ := t_X8_byteAt (x := _) hp (by omega) hn hn2 Hc
    have H := K1 _ _ e1 e2
    clear e1 e2 Hc K1 K2
    replace H := i_bip (x := 32) (q := 18) H I_X8_step_16 (by decide) rfl
    have W := i_ic_ne (t := 34) (q := 21) H I_X8_step_18 (by decide) rfl
    clear H
    rcases W with ⟨c_18, H⟩ | ⟨c_18, H⟩
    · skip
      refine ⟨m, H, ?_, fun a b _ => rfl⟩
      rw [hp]
      rcases Nat.lt_or_ge p n with w | w
      · rw [if_pos w] at c_18
        rw [tE_no (by simpa [zsp] using c_18)]
      · rw [tE_out (by omega)]
    · skip
      replace H := i_aln (q := 22) H I_X8_step_21 rfl rfl
      replace H := i_dup (q := 23) H I_X8_step_22 rfl rfl
      replace H := i_gfi (q := 26) H I_X8_step_23 G_8_75 cn_X8_step LY_71 rfl rfl
      replace H := i_icst (x := 1) (q := 27) H I_X8_step_26 (by decide) rfl
      replace H := i_iadd (q := 28) H I_X8_step_27 rfl
      replace H := i_pf (q := 31) H I_X8_step_28 G_8_75 cn_X8_step LY_71 rfl rfl
      replace H := i_goto (q := 8) H I_X8_step_31 (by decide)
      have hlt : p < n := by
        rcases Nat.lt_or_ge p n with w | w
        · exact w
        · rw [if_neg (by omega)] at c_18
          exact absurd c_18 (by decide)
      rw [if_pos hlt] at c_18
      have hy : zsp (m 75 p) = true := by simpa [zsp] using c_18
      obtain ⟨m1, H1, h1, h2⟩ := ih n (p + 1) _ d r h'  (by omega) (by rw [zup_n (by omega)]; exact hn) hn2 (by rw [zup_s, hp, zofn_1]) (by omega) (fun i hi => by rw [zup_n (by omega)]; exact hb i hi) H
      refine ⟨m1, H1, ?_, fun a b hab => ?_⟩
      · rw [h1, tE_yes (f := zsp) hlt hy]
        congr 1
      · rw [h2 a b hab, zup_n hab]
theorem st_name : ∀ (j n p : Nat) (m : zM) (d : Nat) (r : Option Value) (h' : zHp) (c : Int32), n - p = j → m 71 8 = Int32.ofNat n → n ≤ 160 → m 71 12 = Int32.ofNat p → p ≤ n → (∀ i, i < n → ¬ m 75 i = -4) → zE none d zm_X8_step 84 [.ref 71, .int c] [] m r h' → ∃ m1, zE none d zm_X8_step 118 [.ref 71, .int c] [] m1 r h' ∧ m1 71 12 = Int32.ofNat (tE zlt (m 75) n p) ∧ ∀ a b, ¬ (a = 71 ∧ b = 12) → m1 a b = m a b := by
  intro j
  induction j with
  | zero =>
    intro n p m d r h' c hj hn hn2 hp hpn hb H
    replace H := i_aln (q := 85) H I_X8_step_84 rfl rfl
    replace H := i_aln (q := 86) H I_X8_step_85 rfl rfl
    replace H := i_gfi (q := 89) H I_X8_step_86 G_8_75 cn_X8_step LY_71 rfl rfl
    have W := i_cv1 0 (q := 92) H I_X8_step_89 K_8_78 Zm_117 rfl rfl
    clear H
    obtain ⟨r1, h1, Hc, K1, K2⟩ := W
    obtain ⟨e1, e2⟩ := t_X8_byteAt (x := _) hp (by omega) hn hn2 Hc
    have H := K1 _ _ e1 e2
    clear e1 e2 Hc K1 K2
    replace H := i_i2l (q := 93) H I_X8_step_92 rfl
    replace H := i_ldc2 (x := 97) (q := 96) H I_X8_step_93 J_8_85 (by decide) rfl
    replace H := i_ldc2 (x := 122) (q := 99) H I_X8_step_96 J_8_87 (by decide) rfl
    replace H := i_in (q := 102) H I_X8_step_99 K_8_55 rfl
    have W := i_if_eq (t := 118) (q := 105) H I_X8_step_102 (by decide) rfl
    clear H
    rcases W with ⟨c_102, H⟩ | ⟨c_102, H⟩
    · skip
      refine ⟨m, H, ?_, fun a b _ => rfl⟩
      rw [hp]
      rcases Nat.lt_or_ge p n with w | w
      · rw [if_pos w] at c_102
        rw [tE_no (by simpa [zin_lt] using c_102)]
      · rw [tE_out (by omega)]
    · skip
      replace H := i_aln (q := 106) H I_X8_step_105 rfl rfl
      replace H := i_dup (q := 107) H I_X8_step_106 rfl rfl
      replace H := i_gfi (q := 110) H I_X8_step_107 G_8_75 cn_X8_step LY_71 rfl rfl
      replace H := i_icst (x := 1) (q := 111) H I_X8_step_110 (by decide) rfl
      replace H := i_iadd (q := 112) H I_X8_step_111 rfl
      replace H := i_pf (q := 115) H I_X8_step_112 G_8_75 cn_X8_step LY_71 rfl rfl
      replace H := i_goto (q := 84) H I_X8_step_115 (by decide)
      have hlt : p < n := by
        rcases Nat.lt_or_ge p n with w | w
        · exact w
        · rw [if_neg (by omega)] at c_102
          exact absurd (show zin64 (Int32.toInt64 (-4)) 97 122 = 0 by decide) c_102
      rw [if_pos hlt] at c_102
      have hy : zlt (m 75 p) = true := by simpa [zin_lt] using c_102
      omega
  | succ j ih =>
    intro n p m d r h' c hj hn hn2 hp hpn hb H
    replace H := i_aln (q := 85) H I_X8_step_84 rfl rfl
    replace H := i_aln (q := 86) H I_X8_step_85 rfl rfl
    replace H := i_gfi (q := 89) H I_X8_step_86 G_8_75 cn_X8_step LY_71 rfl rfl
    have W := i_cv1 0 (q := 92) H I_X8_step_89 K_8_78 Zm_117 rfl rfl
    clear H
    obtain ⟨r1, h1, Hc, K1, K2⟩ := W
    obtain ⟨e1, e2⟩ := t_X8_byteAt (x := _) hp (by omega) hn hn2 Hc
    have H := K1 _ _ e1 e2
    clear e1 e2 Hc K1 K2
    replace H := i_i2l (q := 93) H I_X8_step_92 rfl
    replace H := i_ldc2 (x := 97) (q := 96) H I_X8_step_93 J_8_85 (by decide) rfl
    replace H := i_ldc2 (x := 122) (q := 99) H I_X8_step_96 J_8_87 (by decide) rfl
    replace H := i_in (q := 102) H I_X8_step_99 K_8_55 rfl
    have W := i_if_eq (t := 118) (q := 105) H I_X8_step_102 (by decide) rfl
    clear H
    rcases W with ⟨c_102, H⟩ | ⟨c_102, H⟩
    · skip
      refine ⟨m, H, ?_, fun a b _ => rfl⟩
      rw [hp]
      rcases Nat.lt_or_ge p n with w | w
      · rw [if_pos w] at c_102
        rw [tE_no (by simpa [zin_lt] using c_102)]
      · rw [tE_out (by omega)]
    · skip
      replace H := i_aln (q := 106) H I_X8_step_105 rfl rfl
      replace H := i_dup (q := 107) H I_X8_step_106 rfl rfl
      replace H := i_gfi (q := 110) H I_X8_step_107 G_8_75 cn_X8_step LY_71 rfl rfl
      replace H := i_icst (x := 1) (q := 111) H I_X8_step_110 (by decide) rfl
      replace H := i_iadd (q := 112) H I_X8_step_111 rfl
      replace H := i_pf (q := 115) H I_X8_step_112 G_8_75 cn_X8_step LY_71 rfl rfl
      replace H := i_goto (q := 84) H I_X8_step_115 (by decide)
      have hlt : p < n := by
        rcases Nat.lt_or_ge p n with w | w
        · exact w
        · rw [if_neg (by omega)] at c_102
          exact absurd (show zin64 (Int32.toInt64 (-4)) 97 122 = 0 by decide) c_102
      rw [if_pos hlt] at c_102
      have hy : zlt (m 75 p) = true := by simpa [zin_lt] using c_102
      obtain ⟨m1, H1, h1, h2⟩ := ih n (p + 1) _ d r h' c (by omega) (by rw [zup_n (by omega)]; exact hn) hn2 (by rw [zup_s, hp, zofn_1]) (by omega) (fun i hi => by rw [zup_n (by omega)]; exact hb i hi) H
      refine ⟨m1, H1, ?_, fun a b hab => ?_⟩
      · rw [h1, tE_yes (f := zlt) hlt hy]
        congr 1
      · rw [h2 a b hab, zup_n hab]
theorem st_dig : ∀ (j n p s : Nat) (m : zM) (d : Nat) (r : Option Value) (h' : zHp) (c : Int32), n - p = j → m 71 8 = Int32.ofNat n → n ≤ 160 → m 71 12 = Int32.ofNat p → p ≤ n → s ≤ p → m 71 13 = Int32.ofNat s → (p = s → m 71 15 = 0) → (p = s + 1 → m 71 15 = m 75 s - 48) → (p = s + 2 → m 71 15 = (m 75 s - 48) * 10 + m 75 (s + 1) - 48) → (∀ i, i < n → ¬ m 75 i = -4) → zE none d zm_X8_step 140 [.ref 71, .int c] [] m r h' → ∃ m1, zE none d zm_X8_step 217 [.ref 71, .int c] [] m1 r h' ∧ m1 71 12 = Int32.ofNat (tE zdg (m 75) n p) ∧ (tE zdg (m 75) n p = s → m1 71 15 = 0) ∧ (tE zdg (m 75) n p = s + 1 → m1 71 15 = m 75 s - 48) ∧ (tE zdg (m 75) n p = s + 2 → m1 71 15 = (m 75 s - 48) * 10 + m 75 (s + 1) - 48) ∧ ∀ a b, ¬ (a = 71 ∧ (b = 12 ∨ b = 15)) → m1 a b = m a b := by
  intro j
  induction j with
  | zero =>
    intro n p s m d r h' c hj hn hn2 hp hpn hsp hs hv0 hv1 hv2 hb H
    replace H := i_aln (q := 141) H I_X8_step_140 rfl rfl
    replace H := i_aln (q := 142) H I_X8_step_141 rfl rfl
    replace H := i_gfi (q := 145) H I_X8_step_142 G_8_75 cn_X8_step LY_71 rfl rfl
    have W := i_cv1 0 (q := 148) H I_X8_step_145 K_8_78 Zm_117 rfl rfl
    clear H
    obtain ⟨r1, h1, Hc, K1, K2⟩ := W
    obtain ⟨e1, e2⟩ := t_X8_byteAt hp (by omega) hn hn2 Hc
    have H := K1 _ _ e1 e2
    clear e1 e2 Hc K1 K2
    replace H := i_i2l (q := 149) H I_X8_step_148 rfl
    replace H := i_ldc2 (x := 48) (q := 152) H I_X8_step_149 J_8_89 (by decide) rfl
    replace H := i_ldc2 (x := 57) (q := 155) H I_X8_step_152 J_8_91 (by decide) rfl
    replace H := i_in (q := 158) H I_X8_step_155 K_8_55 rfl
    have W := i_if_eq (t := 217) (q := 161) H I_X8_step_158 (by decide) rfl
    clear H
    rcases W with ⟨c_158, H⟩ | ⟨c_158, H⟩
    · skip
      have e3 : tE zdg (m 75) n p = p := by
        rcases Nat.lt_or_ge p n with w | w
        · rw [if_pos w] at c_158
          exact tE_no (by simpa [zin_dg] using c_158)
        · exact tE_out (by omega)
      exact ⟨m, H, by rw [e3, hp], by rw [e3]; exact hv0, by rw [e3]; exact hv1, by rw [e3]; exact hv2, fun a b _ => rfl⟩
    · skip
      replace H := i_aln (q := 162) H I_X8_step_161 rfl rfl
      replace H := i_aln (q := 163) H I_X8_step_162 rfl rfl
      replace H := i_gfi (q := 166) H I_X8_step_163 G_8_75 cn_X8_step LY_71 rfl rfl
      replace H := i_aln (q := 167) H I_X8_step_166 rfl rfl
      replace H := i_gfi (q := 170) H I_X8_step_167 G_8_66 cn_X8_step LY_71 rfl rfl
      replace H := i_isub (q := 171) H I_X8_step_170 rfl
      replace H := i_icst (x := 2) (q := 172) H I_X8_step_171 (by decide) rfl
      have W := i_ic_ge (t := 197) (q := 175) H I_X8_step_172 (by decide) rfl
      clear H
      rcases W with ⟨c_172, H⟩ | ⟨c_172, H⟩
      · skip
        replace H := i_aln (q := 198) H I_X8_step_197 rfl rfl
        replace H := i_gfi (q := 201) H I_X8_step_198 G_8_82 cn_X8_step LY_71 rfl rfl
        replace H := i_pf (q := 204) H I_X8_step_201 G_8_82 cn_X8_step LY_71 rfl rfl
        replace H := i_aln (q := 205) H I_X8_step_204 rfl rfl
        replace H := i_dup (q := 206) H I_X8_step_205 rfl rfl
        replace H := i_gfi (q := 209) H I_X8_step_206 G_8_75 cn_X8_step LY_71 rfl rfl
        replace H := i_icst (x := 1) (q := 210) H I_X8_step_209 (by decide) rfl
        replace H := i_iadd (q := 211) H I_X8_step_210 rfl
        replace H := i_pf (q := 214) H I_X8_step_211 G_8_75 cn_X8_step LY_71 rfl rfl
        replace H := i_goto (q := 140) H I_X8_step_214 (by decide)
        have hlt : p < n := by
          rcases Nat.lt_or_ge p n with w | w
          · exact w
          · rw [if_neg (by omega)] at c_158
            exact absurd (show zin64 (Int32.toInt64 (-4)) 48 57 = 0 by decide) c_158
        rw [if_pos hlt] at c_158
        have hy : zdg (m 75 p) = true := by simpa [zin_dg] using c_158
        omega
      · skip
        replace H := i_bip (x := 10) (q := 177) H I_X8_step_175 (by decide) rfl
        replace H := i_aln (q := 178) H I_X8_step_177 rfl rfl
        replace H := i_gfi (q := 181) H I_X8_step_178 G_8_82 cn_X8_step LY_71 rfl rfl
        replace H := i_imul (q := 182) H I_X8_step_181 rfl
        replace H := i_aln (q := 183) H I_X8_step_182 rfl rfl
        replace H := i_aln (q := 184) H I_X8_step_183 rfl rfl
        replace H := i_gfi (q := 187) H I_X8_step_184 G_8_75 cn_X8_step LY_71 rfl rfl
        have W := i_cv1 0 (q := 190) H I_X8_step_187 K_8_78 Zm_117 rfl rfl
        clear H
        obtain ⟨r1, h1, Hc, K1, K2⟩ := W
        obtain ⟨e1, e2⟩ := t_X8_byteAt hp (by omega) hn hn2 Hc
        have H := K1 _ _ e1 e2
        clear e1 e2 Hc K1 K2
        replace H := i_iadd (q := 191) H I_X8_step_190 rfl
        replace H := i_bip (x := 48) (q := 193) H I_X8_step_191 (by decide) rfl
        replace H := i_isub (q := 194) H I_X8_step_193 rfl
        replace H := i_goto (q := 201) H I_X8_step_194 (by decide)
        replace H := i_pf (q := 204) H I_X8_step_201 G_8_82 cn_X8_step LY_71 rfl rfl
        replace H := i_aln (q := 205) H I_X8_step_204 rfl rfl
        replace H := i_dup (q := 206) H I_X8_step_205 rfl rfl
        replace H := i_gfi (q := 209) H I_X8_step_206 G_8_75 cn_X8_step LY_71 rfl rfl
        replace H := i_icst (x := 1) (q := 210) H I_X8_step_209 (by decide) rfl
        replace H := i_iadd (q := 211) H I_X8_step_210 rfl
        replace H := i_pf (q := 214) H I_X8_step_211 G_8_75 cn_X8_step LY_71 rfl rfl
        replace H := i_goto (q := 140) H I_X8_step_214 (by decide)
        have hlt : p < n := by
          rcases Nat.lt_or_ge p n with w | w
          · exact w
          · rw [if_neg (by omega)] at c_158
            exact absurd (show zin64 (Int32.toInt64 (-4)) 48 57 = 0 by decide) c_158
        rw [if_pos hlt] at c_158
        have hy : zdg (m 75 p) = true := by simpa [zin_dg] using c_158
        omega
  | succ j ih =>
    intro n p s m d r h' c hj hn hn2 hp hpn hsp hs hv0 hv1 hv2 hb H
    replace H := i_aln (q := 141) H I_X8_step_140 rfl rfl
    replace H := i_aln (q := 142) H I_X8_step_141 rfl rfl
    replace H := i_gfi (q := 145) H I_X8_step_142 G_8_75 cn_X8_step LY_71 rfl rfl
    have W := i_cv1 0 (q := 148) H I_X8_step_145 K_8_78 Zm_117 rfl rfl
    clear H
    obtain ⟨r1, h1, Hc, K1, K2⟩ := W
    obtain ⟨e1, e2⟩ := t_X8_byteAt hp (by omega) hn hn2 Hc
    have H := K1 _ _ e1 e2
    clear e1 e2 Hc K1 K2
    replace H := i_i2l (q := 149) H I_X8_step_148 rfl
    replace H := i_ldc2 (x := 48) (q := 152) H I_X8_step_149 J_8_89 (by decide) rfl
    replace H := i_ldc2 (x := 57) (q := 155) H I_X8_step_152 J_8_91 (by decide) rfl
    replace H := i_in (q := 158) H I_X8_step_155 K_8_55 rfl
    have W := i_if_eq (t := 217) (q := 161) H I_X8_step_158 (by decide) rfl
    clear H
    rcases W with ⟨c_158, H⟩ | ⟨c_158, H⟩
    · skip
      have e3 : tE zdg (m 75) n p = p := by
        rcases Nat.lt_or_ge p n with w | w
        · rw [if_pos w] at c_158
          exact tE_no (by simpa [zin_dg] using c_158)
        · exact tE_out (by omega)
      exact ⟨m, H, by rw [e3, hp], by rw [e3]; exact hv0, by rw [e3]; exact hv1, by rw [e3]; exact hv2, fun a b _ => rfl⟩
    · skip
      replace H := i_aln (q := 162) H I_X8_step_161 rfl rfl
      replace H := i_aln (q := 163) H I_X8_step_162 rfl rfl
      replace H := i_gfi (q := 166) H I_X8_step_163 G_8_75 cn_X8_step LY_71 rfl rfl
      replace H := i_aln (q := 167) H I_X8_step_166 rfl rfl
      replace H := i_gfi (q := 170) H I_X8_step_167 G_8_66 cn_X8_step LY_71 rfl rfl
      replace H := i_isub (q := 171) H I_X8_step_170 rfl
      replace H := i_icst (x := 2) (q := 172) H I_X8_step_171 (by decide) rfl
      have W := i_ic_ge (t := 197) (q := 175) H I_X8_step_172 (by decide) rfl
      clear H
      rcases W with ⟨c_172, H⟩ | ⟨c_172, H⟩
      · skip
        replace H := i_aln (q := 198) H I_X8_step_197 rfl rfl
        replace H := i_gfi (q := 201) H I_X8_step_198 G_8_82 cn_X8_step LY_71 rfl rfl
        replace H := i_pf (q := 204) H I_X8_step_201 G_8_82 cn_X8_step LY_71 rfl rfl
        replace H := i_aln (q := 205) H I_X8_step_204 rfl rfl
        replace H := i_dup (q := 206) H I_X8_step_205 rfl rfl
        replace H := i_gfi (q := 209) H I_X8_step_206 G_8_75 cn_X8_step LY_71 rfl rfl
        replace H := i_icst (x := 1) (q := 210) H I_X8_step_209 (by decide) rfl
        replace H := i_iadd (q := 211) H I_X8_step_210 rfl
        replace H := i_pf (q := 214) H I_X8_step_211 G_8_75 cn_X8_step LY_71 rfl rfl
        replace H := i_goto (q := 140) H I_X8_step_214 (by decide)
        have hlt : p < n := by
          rcases Nat.lt_or_ge p n with w | w
          · exact w
          · rw [if_neg (by omega)] at c_158
            exact absurd (show zin64 (Int32.toInt64 (-4)) 48 57 = 0 by decide) c_158
        rw [if_pos hlt] at c_158
        have hy : zdg (m 75 p) = true := by simpa [zin_dg] using c_158
        have hsub : m 71 12 - m 71 13 = Int32.ofNat (p - s) := by rw [hp, hs, ← zofn_sub (by omega)]
        rw [hsub] at c_172
        have hge : 2 ≤ p - s := Nat.le_of_not_lt (fun w => c_172 ((zofn_lt (j := 2) (by omega) (by decide)).mpr w))
        obtain ⟨m1, H1, h1, h2a, h2, h3, h4⟩ := ih n (p + 1) s _ d r h' c (by omega) (by rw [zup_n (by omega), zup_n (by omega)]; exact hn) hn2 (by rw [zup_s, zup_n (by omega), hp, zofn_1]) (by omega) (by omega) (by rw [zup_n (by omega), zup_n (by omega)]; exact hs) (fun e => by omega) (fun e => by omega) (fun e => by omega) (fun i hi => by rw [zup_n (by omega), zup_n (by omega)]; exact hb i hi) H
        have gt : ∀ x y, zup (zup m 71 15 x) 71 12 y 75 = m 75 := fun x y => by funext b; rw [zup_n (by omega), zup_n (by omega)]
        rw [gt] at h1 h2a h2 h3
        have e3 := tE_yes (f := zdg) hlt hy
        refine ⟨m1, H1, ?_, ?_, ?_, ?_, fun a b hab => ?_⟩
        · rw [h1, e3]
        · rw [e3]; exact h2a
        · rw [e3]; exact h2
        · rw [e3]; exact h3
        · rw [h4 a b hab, zup_n (fun w => hab ⟨w.1, Or.inl w.2⟩), zup_n (fun w => hab ⟨w.1, Or.inr w.2⟩)]
      · skip
        replace H := i_bip (x := 10) (q := 177) H I_X8_step_175 (by decide) rfl
        replace H := i_aln (q := 178) H I_X8_step_177 rfl rfl
        replace H := i_gfi (q := 181) H I_X8_step_178 G_8_82 cn_X8_step LY_71 rfl rfl
        replace H := i_imul (q := 182) H I_X8_step_181 rfl
        replace H := i_aln (q := 183) H I_X8_step_182 rfl rfl
        replace H := i_aln (q := 184) H I_X8_step_183 rfl rfl
        replace H := i_gfi (q := 187) H I_X8_step_184 G_8_75 cn_X8_step LY_71 rfl rfl
        have W := i_cv1 0 (q := 190) H I_X8_step_187 K_8_78 Zm_117 rfl rfl
        clear H
        obtain ⟨r1, h1, Hc, K1, K2⟩ := W
        obtain ⟨e1, e2⟩ := t_X8_byteAt hp (by omega) hn hn2 Hc
        have H := K1 _ _ e1 e2
        clear e1 e2 Hc K1 K2
        replace H := i_iadd (q := 191) H I_X8_step_190 rfl
        replace H := i_bip (x := 48) (q := 193) H I_X8_step_191 (by decide) rfl
        replace H := i_isub (q := 194) H I_X8_step_193 rfl
        replace H := i_goto (q := 201) H I_X8_step_194 (by decide)
        replace H := i_pf (q := 204) H I_X8_step_201 G_8_82 cn_X8_step LY_71 rfl rfl
        replace H := i_aln (q := 205) H I_X8_step_204 rfl rfl
        replace H := i_dup (q := 206) H I_X8_step_205 rfl rfl
        replace H := i_gfi (q := 209) H I_X8_step_206 G_8_75 cn_X8_step LY_71 rfl rfl
        replace H := i_icst (x := 1) (q := 210) H I_X8_step_209 (by decide) rfl
        replace H := i_iadd (q := 211) H I_X8_step_210 rfl
        replace H := i_pf (q := 214) H I_X8_step_211 G_8_75 cn_X8_step LY_71 rfl rfl
        replace H := i_goto (q := 140) H I_X8_step_214 (by decide)
        have hlt : p < n := by
          rcases Nat.lt_or_ge p n with w | w
          · exact w
          · rw [if_neg (by omega)] at c_158
            exact absurd (show zin64 (Int32.toInt64 (-4)) 48 57 = 0 by decide) c_158
        rw [if_pos hlt] at c_158
        have hy : zdg (m 75 p) = true := by simpa [zin_dg] using c_158
        have hsub : m 71 12 - m 71 13 = Int32.ofNat (p - s) := by rw [hp, hs, ← zofn_sub (by omega)]
        rw [hsub] at c_172
        have hlt2 : p - s < 2 := (zofn_lt (j := 2) (by omega) (by decide)).mp c_172
        rw [if_pos hlt] at H
        obtain ⟨m1, H1, h1, h2a, h2, h3, h4⟩ := ih n (p + 1) s _ d r h' c (by omega) (by rw [zup_n (by omega), zup_n (by omega)]; exact hn) hn2 (by rw [zup_s, zup_n (by omega), hp, zofn_1]) (by omega) (by omega) (by rw [zup_n (by omega), zup_n (by omega)]; exact hs) (fun e => by omega) (fun e => by
          have e2 : p = s := by omega
          subst e2
          rw [zup_n (by omega), zup_s, hv0 rfl]
          rw [zup_n (by omega), zup_n (by omega)]
          simp) (fun e => by
          have e2 : p = s + 1 := by omega
          subst e2
          rw [zup_n (by omega), zup_s, hv1 rfl, Int32.mul_comm]
          rw [zup_n (by omega), zup_n (by omega), zup_n (by omega), zup_n (by omega)]) (fun i hi => by rw [zup_n (by omega), zup_n (by omega)]; exact hb i hi) H
        have gt : ∀ x y, zup (zup m 71 15 x) 71 12 y 75 = m 75 := fun x y => by funext b; rw [zup_n (by omega), zup_n (by omega)]
        rw [gt] at h1 h2a h2 h3
        have e3 := tE_yes (f := zdg) hlt hy
        refine ⟨m1, H1, ?_, ?_, ?_, ?_, fun a b hab => ?_⟩
        · rw [h1, e3]
        · rw [e3]; exact h2a
        · rw [e3]; exact h2
        · rw [e3]; exact h3
        · rw [h4 a b hab, zup_n (fun w => hab ⟨w.1, Or.inl w.2⟩), zup_n (fun w => hab ⟨w.1, Or.inr w.2⟩)]
theorem t_X8_step0 {d : Nat} {m : zM} {r : Option Value} {h' : zHp} (h0 : 0 < m 71 10) (H : zE none d zm_X8_step 0 [.ref 71, .null] [] m r h') : r = none ∧ h' = zhp m := by
  replace H := i_aln (q := 1) H I_X8_step_0 rfl rfl
  replace H := i_gfi (q := 4) H I_X8_step_1 G_8_63 cn_X8_step LY_71 rfl rfl
  have W := i_if_le (t := 8) (q := 7) H I_X8_step_4 (by decide) rfl
  clear H
  rcases W with ⟨c_4, H⟩ | ⟨c_4, H⟩
  · skip
    exact absurd h0 c_4
  · skip
    obtain ⟨hr, hh⟩ := i_rt H I_X8_step_7
    exact ⟨hr, hh⟩
theorem t_X8_step {d : Nat} {m : zM} {r : Option Value} {h' : zHp} {n p : Nat} (h0 : m 71 10 = 0) (hn : m 71 8 = Int32.ofNat n) (hn2 : n ≤ 160) (hp : m 71 12 = Int32.ofNat p) (hpn : p ≤ n) (hb : ∀ i, i < n → ¬ m 75 i = -4) (H : zE none d zm_X8_step 0 [.ref 71, .null] [] m r h') : ∃ m1, r = none ∧ h' = zhp m1 ∧ m1 71 12 = Int32.ofNat (tN (m 75) n p) ∧ m1 71 13 = Int32.ofNat (tS (m 75) n p) ∧ (¬ tK (m 75) n p = 4 → m1 71 14 = tK (m 75) n p ∧ m1 71 10 = 0) ∧ (tK (m 75) n p = 4 → m1 71 10 = 1 ∧ m1 71 11 = Int32.ofNat (tS (m 75) n p)) ∧ (tK (m 75) n p = 2 → m1 71 15 = tV (m 75) n p) ∧ zg1015 m m1 := by
  replace H := i_aln (q := 1) H I_X8_step_0 rfl rfl
  replace H := i_gfi (q := 4) H I_X8_step_1 G_8_63 cn_X8_step LY_71 rfl rfl
  have W := i_if_le (t := 8) (q := 7) H I_X8_step_4 (by decide) rfl
  clear H
  rcases W with ⟨c_4, H⟩ | ⟨c_4, H⟩
  · skip
    obtain ⟨m1, H, f12, ff⟩ := st_blank _ n p m d r h' rfl hn hn2 hp hpn hb H
    have f12 : m1 71 12 = Int32.ofNat (tS (m 75) n p) := f12
    have hsn : tS (m 75) n p ≤ n := tE_le hpn
    replace H := i_aln (q := 35) H I_X8_step_34 rfl rfl
    replace H := i_aln (q := 36) H I_X8_step_35 rfl rfl
    replace H := i_gfi (q := 39) H I_X8_step_36 G_8_75 cn_X8_step LY_71 rfl rfl
    replace H := i_pf (q := 42) H I_X8_step_39 G_8_66 cn_X8_step LY_71 rfl rfl
    replace H := i_aln (q := 43) H I_X8_step_42 rfl rfl
    replace H := i_aln (q := 44) H I_X8_step_43 rfl rfl
    replace H := i_gfi (q := 47) H I_X8_step_44 G_8_75 cn_X8_step LY_71 rfl rfl
    have W := i_cv1 0 (q := 50) H I_X8_step_47 K_8_78 Zm_117 rfl rfl
    clear H
    obtain ⟨r1, h1, Hc, K1, K2⟩ := W
    obtain ⟨e1, e2⟩ := t_X8_byteAt (p := tS (m 75) n p) (n := n) (by rw [zup_n (by omega)]; exact f12) (by omega) (by rw [zup_n (by omega), ff 71 8 (by omega)]; exact hn) hn2 Hc
    have H := K1 _ _ e1 e2
    clear e1 e2 Hc K1 K2
    replace H := i_isn (q := 51) H I_X8_step_50 rfl rfl
    replace H := i_aln (q := 52) H I_X8_step_51 rfl rfl
    replace H := i_icst (x := 0) (q := 53) H I_X8_step_52 (by decide) rfl
    replace H := i_pf (q := 56) H I_X8_step_53 G_8_82 cn_X8_step LY_71 rfl rfl
    rw [show zup m1 71 13 (m1 71 12) 75 = m 75 from by funext b; rw [zup_n (by omega), ff 75 b (by omega)]] at H
    obtain ⟨m2, H, g12, g13, g15, g8, gf⟩ : ∃ m2, zE none d zm_X8_step 56 [.ref 71, .int (if tS (m 75) n p < n then m 75 (tS (m 75) n p) else -4)] [] m2 r h' ∧ m2 71 12 = Int32.ofNat (tS (m 75) n p) ∧ m2 71 13 = Int32.ofNat (tS (m 75) n p) ∧ m2 71 15 = 0 ∧ m2 71 8 = Int32.ofNat n ∧ ∀ a b, ¬ (a = 71 ∧ 12 ≤ b ∧ b ≤ 15) → m2 a b = m a b := ⟨_, H, by rw [zup_n (by omega), zup_n (by omega)]; exact f12, by rw [zup_n (by omega), zup_s]; exact f12, zup_s _ _ _ _, by rw [zup_n (by omega), zup_n (by omega), ff 71 8 (by omega)]; exact hn, fun a b hab => by rw [zup_n (by omega), zup_n (by omega), ff a b (by omega)]⟩
    replace H := i_iln (q := 57) H I_X8_step_56 rfl rfl
    replace H := i_bip (x := (-4)) (q := 59) H I_X8_step_57 (by decide) rfl
    have W := i_ic_ne (t := 70) (q := 62) H I_X8_step_59 (by decide) rfl
    clear H
    rcases W with ⟨c_59, H⟩ | ⟨c_59, H⟩
    · skip
      replace H := i_iln (q := 71) H I_X8_step_70 rfl rfl
      replace H := i_i2l (q := 72) H I_X8_step_71 rfl
      replace H := i_ldc2 (x := 97) (q := 75) H I_X8_step_72 J_8_85 (by decide) rfl
      replace H := i_ldc2 (x := 122) (q := 78) H I_X8_step_75 J_8_87 (by decide) rfl
      replace H := i_in (q := 81) H I_X8_step_78 K_8_55 rfl
      have W := i_if_eq (t := 126) (q := 84) H I_X8_step_81 (by decide) rfl
      clear H
      rcases W with ⟨c_81, H⟩ | ⟨c_81, H⟩
      · skip
        replace H := i_iln (q := 127) H I_X8_step_126 rfl rfl
        replace H := i_i2l (q := 128) H I_X8_step_127 rfl
        replace H := i_ldc2 (x := 48) (q := 131) H I_X8_step_128 J_8_89 (by decide) rfl
        replace H := i_ldc2 (x := 57) (q := 134) H I_X8_step_131 J_8_91 (by decide) rfl
        replace H := i_in (q := 137) H I_X8_step_134 K_8_55 rfl
        have W := i_if_eq (t := 243) (q := 140) H I_X8_step_137 (by decide) rfl
        clear H
        rcases W with ⟨c_137, H⟩ | ⟨c_137, H⟩
        · skip
          replace H := i_aln (q := 244) H I_X8_step_243 rfl rfl
          replace H := i_icst (x := 3) (q := 245) H I_X8_step_244 (by decide) rfl
          replace H := i_pf (q := 248) H I_X8_step_245 G_8_72 cn_X8_step LY_71 rfl rfl
          replace H := i_aln (q := 249) H I_X8_step_248 rfl rfl
          replace H := i_dup (q := 250) H I_X8_step_249 rfl rfl
          replace H := i_gfi (q := 253) H I_X8_step_250 G_8_75 cn_X8_step LY_71 rfl rfl
          replace H := i_icst (x := 1) (q := 254) H I_X8_step_253 (by decide) rfl
          replace H := i_iadd (q := 255) H I_X8_step_254 rfl
          replace H := i_pf (q := 258) H I_X8_step_255 G_8_75 cn_X8_step LY_71 rfl rfl
          replace H := i_iln (q := 259) H I_X8_step_258 rfl rfl
          replace H := i_bip (x := 59) (q := 261) H I_X8_step_259 (by decide) rfl
          have W := i_ic_eq (t := 269) (q := 264) H I_X8_step_261 (by decide) rfl
          clear H
          rcases W with ⟨c_261, H⟩ | ⟨c_261, H⟩
          · skip
            obtain ⟨hr, hh⟩ := i_rt H I_X8_step_269
            have hns : tS (m 75) n p < n := by
              rcases Nat.lt_or_ge (tS (m 75) n p) n with w | w
              · exact w
              · rw [if_neg (by omega)] at c_59; exact absurd rfl c_59
            rw [if_pos hns] at H c_59
            have gt2 : m2 75 = m 75 := by funext b; exact gf 75 b (by omega)
            generalize hS : tS (m 75) n p = s at *
            have hns2 : ¬ n ≤ s := by omega
            rw [if_pos hns, zin_lt] at c_81
            rw [if_pos hns, zin_dg] at c_137
            rw [if_pos hns] at c_261
            have hL : zlt (m 75 s) = false := by simpa using c_81
            have hD : zdg (m 75 s) = false := by simpa using c_137
            have g10 : m2 71 10 = 0 := by rw [gf 71 10 (by omega), h0]
            have hk : tK (m 75) n p = 3 := by
              simp only [tK, tKs, hS, if_neg hns2, hL, hD, Bool.false_eq_true, if_false]
              rw [if_pos c_261]
            refine ⟨_, hr, hh, ?_, ?_, ?_, ?_, ?_, ?_⟩
            · rw [zup_s, zup_n (by omega), g12, zofn_1]; simp [tN, tNs, hS, hns2, hL, hD]
            · rw [zup_n (by omega), zup_n (by omega), g13]
            · intro _
              rw [zup_n (by omega), zup_s, zup_n (by omega), zup_n (by omega), g10, hk]
              exact ⟨rfl, rfl⟩
            · rw [hk]; intro w; exact absurd w (by decide)
            · rw [hk]; intro w; exact absurd w (by decide)
            · intro a b hab
              rw [zup_n (by omega), zup_n (by omega), gf a b (by omega)]
          · skip
            replace H := i_aln (q := 265) H I_X8_step_264 rfl rfl
            replace H := i_icst (x := 1) (q := 266) H I_X8_step_265 (by decide) rfl
            have W := i_cv1 0 (q := 269) H I_X8_step_266 K_8_93 Zm_118 rfl rfl
            clear H
            obtain ⟨r1, h1, Hc, K1, K2⟩ := W
            obtain ⟨e1, e2⟩ := t_X8_fails Hc
            have H := K2 _ e1 e2
            clear e1 e2 Hc K1 K2
            obtain ⟨hr, hh⟩ := i_rt H I_X8_step_269
            have hns : tS (m 75) n p < n := by
              rcases Nat.lt_or_ge (tS (m 75) n p) n with w | w
              · exact w
              · rw [if_neg (by omega)] at c_59; exact absurd rfl c_59
            rw [if_pos hns] at H c_59
            have gt2 : m2 75 = m 75 := by funext b; exact gf 75 b (by omega)
            generalize hS : tS (m 75) n p = s at *
            have hns2 : ¬ n ≤ s := by omega
            rw [if_pos hns, zin_lt] at c_81
            rw [if_pos hns, zin_dg] at c_137
            rw [if_pos hns] at c_261
            have hL : zlt (m 75 s) = false := by simpa using c_81
            have hD : zdg (m 75 s) = false := by simpa using c_137
            have g10 : m2 71 10 = 0 := by rw [gf 71 10 (by omega), h0]
            have hk : tK (m 75) n p = 4 := by
              simp only [tK, tKs, hS, if_neg hns2, hL, hD, Bool.false_eq_true, if_false]
              rw [if_neg c_261]
            rw [zup_n (by omega), zup_n (by omega), g10, if_pos rfl] at hh
            refine ⟨_, hr, hh, ?_, ?_, ?_, ?_, ?_, ?_⟩
            · rw [zup_n (by omega), zup_n (by omega), zup_s, zup_n (by omega), g12, zofn_1]; simp [tN, tNs, hS, hns2, hL, hD]
            · rw [zup_n (by omega), zup_n (by omega), zup_n (by omega), zup_n (by omega), g13]
            · rw [hk]; intro w; exact absurd rfl w
            · intro _
              rw [zup_n (by omega), zup_s, zup_s, zup_n (by omega), zup_n (by omega), g13]
              exact ⟨rfl, rfl⟩
            · rw [hk]; intro w; exact absurd w (by decide)
            · intro a b hab
              rw [zup_n (by omega), zup_n (by omega), zup_n (by omega), zup_n (by omega), gf a b (by omega)]
        · skip
          have hns : tS (m 75) n p < n := by
            rcases Nat.lt_or_ge (tS (m 75) n p) n with w | w
            · exact w
            · rw [if_neg (by omega)] at c_59; exact absurd rfl c_59
          rw [if_pos hns] at H c_59
          have gt2 : m2 75 = m 75 := by funext b; exact gf 75 b (by omega)
          generalize hS : tS (m 75) n p = s at *
          have hns2 : ¬ n ≤ s := by omega
          rw [if_pos hns, zin_lt] at c_81
          rw [if_pos hns, zin_dg] at c_137
          have hL : zlt (m 75 s) = false := by simpa using c_81
          have hD : zdg (m 75 s) = true := by simpa using c_137
          obtain ⟨m4, H, l12, lv0, lv1, lv2, lf⟩ := st_dig _ n s s m2 d r h' _ rfl g8 hn2 g12 (by omega) (by omega) g13 (fun _ => g15) (fun e => by omega) (fun e => by omega) (by rw [gt2]; exact hb) H
          rw [gt2, tE_yes (f := zdg) hns hD] at l12 lv0 lv1 lv2
          have hge : s + 1 ≤ tE zdg (m 75) n (s + 1) := tE_ge
          have hle : tE zdg (m 75) n (s + 1) ≤ n := tE_le (by omega)
          have l13 : m4 71 13 = Int32.ofNat s := by rw [lf 71 13 (by omega), g13]
          have l10 : m4 71 10 = 0 := by rw [lf 71 10 (by omega), gf 71 10 (by omega), h0]
          have hsub : m4 71 12 - m4 71 13 = Int32.ofNat (tE zdg (m 75) n (s + 1) - s) := by
            rw [l12, l13, ← zofn_sub (by omega)]
          replace H := i_aln (q := 218) H I_X8_step_217 rfl rfl
          replace H := i_icst (x := 2) (q := 219) H I_X8_step_218 (by decide) rfl
          replace H := i_pf (q := 222) H I_X8_step_219 G_8_72 cn_X8_step LY_71 rfl rfl
          replace H := i_aln (q := 223) H I_X8_step_222 rfl rfl
          replace H := i_gfi (q := 226) H I_X8_step_223 G_8_75 cn_X8_step LY_71 rfl rfl
          replace H := i_aln (q := 227) H I_X8_step_226 rfl rfl
          replace H := i_gfi (q := 230) H I_X8_step_227 G_8_66 cn_X8_step LY_71 rfl rfl
          replace H := i_isub (q := 231) H I_X8_step_230 rfl
          replace H := i_icst (x := 2) (q := 232) H I_X8_step_231 (by decide) rfl
          have W := i_ic_le (t := 269) (q := 235) H I_X8_step_232 (by decide) rfl
          clear H
          rcases W with ⟨c_232, H⟩ | ⟨c_232, H⟩
          · skip
            obtain ⟨hr, hh⟩ := i_rt H I_X8_step_269
            have hq : ¬ 2 < tE zdg (m 75) n (s + 1) - s := by
              rw [zup_n (by omega), zup_n (by omega), hsub] at c_232
              exact fun w => c_232 ((zofn_lt (i := 2) (by decide) (by omega)).mpr w)
            refine ⟨_, hr, hh, ?_, ?_, ?_, ?_, ?_, ?_⟩
            · rw [zup_n (by omega), l12]; simp [tN, tNs, hS, hns2, hL, hD]
            · rw [zup_n (by omega), l13]
            · intro hk
              rw [zup_s, zup_n (by omega), l10]
              exact ⟨by simp [tK, tKs, hS, hns2, hL, hD, hq], rfl⟩
            · intro hk
              exact absurd hk (by simp [tK, tKs, hS, hns2, hL, hD, hq])
            · intro _
              rw [zup_n (by omega)]
              simp only [tV, tVs, hS, hD, if_true]
              split
              · rename_i e
                exact lv1 e
              · rename_i e
                exact lv2 (by omega)
            · intro a b hab
              rw [zup_n (by omega), lf a b (by omega), gf a b (by omega)]
          · skip
            replace H := i_aln (q := 236) H I_X8_step_235 rfl rfl
            replace H := i_icst (x := 1) (q := 237) H I_X8_step_236 (by decide) rfl
            have W := i_cv1 0 (q := 240) H I_X8_step_237 K_8_93 Zm_118 rfl rfl
            clear H
            obtain ⟨r1, h1, Hc, K1, K2⟩ := W
            obtain ⟨e1, e2⟩ := t_X8_fails Hc
            have H := K2 _ e1 e2
            clear e1 e2 Hc K1 K2
            replace H := i_goto (q := 269) H I_X8_step_240 (by decide)
            obtain ⟨hr, hh⟩ := i_rt H I_X8_step_269
            have hq : 2 < tE zdg (m 75) n (s + 1) - s := by
              rw [zup_n (by omega), zup_n (by omega), hsub] at c_232
              exact (zofn_lt (i := 2) (by decide) (by omega)).mp c_232
            rw [zup_n (by omega), show m4 71 10 = 0 from l10, if_pos rfl] at hh
            refine ⟨_, hr, hh, ?_, ?_, ?_, ?_, ?_, ?_⟩
            · rw [zup_n (by omega), zup_n (by omega), zup_n (by omega), l12]; simp [tN, tNs, hS, hns2, hL, hD]
            · rw [zup_n (by omega), zup_n (by omega), zup_n (by omega), l13]
            · intro hk
              exact absurd (by simp [tK, tKs, hS, hns2, hL, hD, hq]) hk
            · intro _
              rw [zup_n (by omega), zup_s, zup_s, zup_n (by omega), l13]
              exact ⟨rfl, rfl⟩
            · intro hk
              exact absurd hk (by simp [tK, tKs, hS, hns2, hL, hD, hq])
            · intro a b hab
              rw [zup_n (by omega), zup_n (by omega), zup_n (by omega), lf a b (by omega), gf a b (by omega)]
      · skip
        have hns : tS (m 75) n p < n := by
          rcases Nat.lt_or_ge (tS (m 75) n p) n with w | w
          · exact w
          · rw [if_neg (by omega)] at c_59; exact absurd rfl c_59
        rw [if_pos hns] at H c_59
        have gt2 : m2 75 = m 75 := by funext b; exact gf 75 b (by omega)
        generalize hS : tS (m 75) n p = s at *
        have hns2 : ¬ n ≤ s := by omega
        rw [if_pos hns, zin_lt] at c_81
        have hL : zlt (m 75 s) = true := by simpa using c_81
        obtain ⟨m4, H, l12, lf⟩ := st_name _ n s m2 d r h' _ rfl g8 hn2 g12 (by omega) (by rw [gt2]; exact hb) H
        rw [gt2, tE_yes (f := zlt) hns hL] at l12
        replace H := i_aln (q := 119) H I_X8_step_118 rfl rfl
        replace H := i_icst (x := 1) (q := 120) H I_X8_step_119 (by decide) rfl
        replace H := i_pf (q := 123) H I_X8_step_120 G_8_72 cn_X8_step LY_71 rfl rfl
        replace H := i_goto (q := 269) H I_X8_step_123 (by decide)
        obtain ⟨hr, hh⟩ := i_rt H I_X8_step_269
        refine ⟨_, hr, hh, ?_, ?_, ?_, ?_, ?_, ?_⟩
        · rw [zup_n (by omega), l12]; simp [tN, tNs, hS, hns2, hL]
        · rw [zup_n (by omega), lf 71 13 (by omega), g13]
        · intro _
          rw [zup_s, zup_n (by omega), lf 71 10 (by omega), gf 71 10 (by omega)]
          exact ⟨by simp [tK, tKs, hS, hns2, hL], h0⟩
        · simp [tK, tKs, hS, hns2, hL]
        · simp [tK, tKs, hS, hns2, hL]
        · intro a b hab
          rw [zup_n (by omega), lf a b (by omega), gf a b (by omega)]
    · skip
      replace H := i_aln (q := 63) H I_X8_step_62 rfl rfl
      replace H := i_icst (x := 0) (q := 64) H I_X8_step_63 (by decide) rfl
      replace H := i_pf (q := 67) H I_X8_step_64 G_8_72 cn_X8_step LY_71 rfl rfl
      replace H := i_goto (q := 269) H I_X8_step_67 (by decide)
      obtain ⟨hr, hh⟩ := i_rt H I_X8_step_269
      have hns : ¬ tS (m 75) n p < n := fun w => by rw [if_pos w] at c_59; exact hb _ w c_59
      have hns2 : n ≤ tS (m 75) n p := by omega
      refine ⟨_, hr, hh, ?_, ?_, ?_, ?_, ?_, ?_⟩
      · rw [zup_n (by omega), g12]; simp [tN, tNs, hns2]
      · rw [zup_n (by omega), g13]
      · intro _
        rw [zup_s, zup_n (by omega), gf 71 10 (by omega)]
        exact ⟨by simp [tK, tKs, hns2], h0⟩
      · simp [tK, tKs, hns2]
      · simp [tK, tKs, hns2]
      · intro a b hab
        rw [zup_n (by omega), gf a b (by omega)]
  · skip
    obtain ⟨hr, hh⟩ := i_rt H I_X8_step_7
    rw [h0] at c_4
    exact absurd c_4 (by decide)
