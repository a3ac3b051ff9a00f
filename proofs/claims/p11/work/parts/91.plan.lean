/-! the plan carried out, on -/
theorem It_X8_planGoes : zm_X8_planGoes.2.2.2.2.2 = zt_X8_planGoes := by
  unfold zm_X8_planGoes
  rfl
theorem I_X3_play_0 : zin zm_X3_play.2.2.2.2.2 0 = some (.aload_n 0, 1) := by rw [It_X3_play]; rfl
theorem I_X3_play_1 : zin zm_X3_play.2.2.2.2.2 1 = some (.iconst 0, 1) := by rw [It_X3_play]; rfl
theorem I_X3_play_2 : zin zm_X3_play.2.2.2.2.2 2 = some (.putfield 22, 3) := by rw [It_X3_play]; rfl
theorem I_X3_play_5 : zin zm_X3_play.2.2.2.2.2 5 = some (.aload_n 0, 1) := by rw [It_X3_play]; rfl
theorem I_X3_play_6 : zin zm_X3_play.2.2.2.2.2 6 = some (.iconst 0, 1) := by rw [It_X3_play]; rfl
theorem I_X3_play_7 : zin zm_X3_play.2.2.2.2.2 7 = some (.putfield 26, 3) := by rw [It_X3_play]; rfl
theorem I_X3_play_10 : zin zm_X3_play.2.2.2.2.2 10 = some (.aload_n 0, 1) := by rw [It_X3_play]; rfl
theorem I_X3_play_11 : zin zm_X3_play.2.2.2.2.2 11 = some (.bipush (-4), 2) := by rw [It_X3_play]; rfl
theorem I_X3_play_13 : zin zm_X3_play.2.2.2.2.2 13 = some (.putfield 29, 3) := by rw [It_X3_play]; rfl
theorem I_X3_play_16 : zin zm_X3_play.2.2.2.2.2 16 = some (.aload_n 0, 1) := by rw [It_X3_play]; rfl
theorem I_X3_play_17 : zin zm_X3_play.2.2.2.2.2 17 = some (.getfield 18, 3) := by rw [It_X3_play]; rfl
theorem I_X3_play_20 : zin zm_X3_play.2.2.2.2.2 20 = some (.bipush (-4), 2) := by rw [It_X3_play]; rfl
theorem I_X3_play_22 : zin zm_X3_play.2.2.2.2.2 22 = some (.invokestatic 32, 3) := by rw [It_X3_play]; rfl
theorem I_X3_play_25 : zin zm_X3_play.2.2.2.2.2 25 = some (.iconst 0, 1) := by rw [It_X3_play]; rfl
theorem I_X3_play_26 : zin zm_X3_play.2.2.2.2.2 26 = some (.istore_n 2, 1) := by rw [It_X3_play]; rfl
theorem I_X8_planGoes_0 : zin zm_X8_planGoes.2.2.2.2.2 0 = some (.aload_n 0, 1) := by rw [It_X8_planGoes]; rfl
theorem I_X8_planGoes_1 : zin zm_X8_planGoes.2.2.2.2.2 1 = some (.iconst 0, 1) := by rw [It_X8_planGoes]; rfl
theorem I_X8_planGoes_2 : zin zm_X8_planGoes.2.2.2.2.2 2 = some (.putfield 179, 3) := by rw [It_X8_planGoes]; rfl
theorem I_X8_planGoes_5 : zin zm_X8_planGoes.2.2.2.2.2 5 = some (.aload_n 0, 1) := by rw [It_X8_planGoes]; rfl
theorem I_X8_planGoes_6 : zin zm_X8_planGoes.2.2.2.2.2 6 = some (.iconst 0, 1) := by rw [It_X8_planGoes]; rfl
theorem I_X8_planGoes_7 : zin zm_X8_planGoes.2.2.2.2.2 7 = some (.putfield 182, 3) := by rw [It_X8_planGoes]; rfl
theorem I_X8_planGoes_10 : zin zm_X8_planGoes.2.2.2.2.2 10 = some (.aload_n 0, 1) := by rw [It_X8_planGoes]; rfl
theorem I_X8_planGoes_11 : zin zm_X8_planGoes.2.2.2.2.2 11 = some (.bipush (-4), 2) := by rw [It_X8_planGoes]; rfl
theorem I_X8_planGoes_13 : zin zm_X8_planGoes.2.2.2.2.2 13 = some (.putfield 185, 3) := by rw [It_X8_planGoes]; rfl
theorem I_X8_planGoes_16 : zin zm_X8_planGoes.2.2.2.2.2 16 = some (.iconst 0, 1) := by rw [It_X8_planGoes]; rfl
theorem I_X8_planGoes_17 : zin zm_X8_planGoes.2.2.2.2.2 17 = some (.istore_n 2, 1) := by rw [It_X8_planGoes]; rfl
theorem I_X8_planGoes_18 : zin zm_X8_planGoes.2.2.2.2.2 18 = some (.iload_n 2, 1) := by rw [It_X8_planGoes]; rfl
theorem I_X8_planGoes_19 : zin zm_X8_planGoes.2.2.2.2.2 19 = some (.bipush 8, 2) := by rw [It_X8_planGoes]; rfl
theorem I_X8_planGoes_21 : zin zm_X8_planGoes.2.2.2.2.2 21 = some (.if_icmp .ge 174, 3) := by rw [It_X8_planGoes]; rfl
theorem I_X8_planGoes_24 : zin zm_X8_planGoes.2.2.2.2.2 24 = some (.iload_n 2, 1) := by rw [It_X8_planGoes]; rfl
theorem I_X8_planGoes_25 : zin zm_X8_planGoes.2.2.2.2.2 25 = some (.aload_n 0, 1) := by rw [It_X8_planGoes]; rfl
theorem I_X8_planGoes_26 : zin zm_X8_planGoes.2.2.2.2.2 26 = some (.getfield 7, 3) := by rw [It_X8_planGoes]; rfl
theorem I_X8_planGoes_29 : zin zm_X8_planGoes.2.2.2.2.2 29 = some (.sipush 134, 3) := by rw [It_X8_planGoes]; rfl
theorem I_X8_planGoes_32 : zin zm_X8_planGoes.2.2.2.2.2 32 = some (.iaload, 1) := by rw [It_X8_planGoes]; rfl
theorem I_X8_planGoes_33 : zin zm_X8_planGoes.2.2.2.2.2 33 = some (.if_icmp .ge 15, 3) := by rw [It_X8_planGoes]; rfl
theorem I_X8_planGoes_36 : zin zm_X8_planGoes.2.2.2.2.2 36 = some (.aload_n 0, 1) := by rw [It_X8_planGoes]; rfl
theorem I_X8_planGoes_37 : zin zm_X8_planGoes.2.2.2.2.2 37 = some (.getfield 7, 3) := by rw [It_X8_planGoes]; rfl
theorem I_X8_planGoes_40 : zin zm_X8_planGoes.2.2.2.2.2 40 = some (.bipush 126, 2) := by rw [It_X8_planGoes]; rfl
theorem I_X8_planGoes_42 : zin zm_X8_planGoes.2.2.2.2.2 42 = some (.iload_n 2, 1) := by rw [It_X8_planGoes]; rfl
theorem I_X8_planGoes_43 : zin zm_X8_planGoes.2.2.2.2.2 43 = some (.iadd, 1) := by rw [It_X8_planGoes]; rfl
theorem I_X8_planGoes_44 : zin zm_X8_planGoes.2.2.2.2.2 44 = some (.iaload, 1) := by rw [It_X8_planGoes]; rfl
theorem I_X8_planGoes_45 : zin zm_X8_planGoes.2.2.2.2.2 45 = some (.goto 4, 3) := by rw [It_X8_planGoes]; rfl
theorem I_X8_planGoes_48 : zin zm_X8_planGoes.2.2.2.2.2 48 = some (.iconst (-1), 1) := by rw [It_X8_planGoes]; rfl
theorem I_X8_planGoes_49 : zin zm_X8_planGoes.2.2.2.2.2 49 = some (.istore_n 3, 1) := by rw [It_X8_planGoes]; rfl
theorem I_X8_planGoes_50 : zin zm_X8_planGoes.2.2.2.2.2 50 = some (.aload_n 0, 1) := by rw [It_X8_planGoes]; rfl
theorem I_X8_planGoes_51 : zin zm_X8_planGoes.2.2.2.2.2 51 = some (.getfield 28, 3) := by rw [It_X8_planGoes]; rfl
theorem I_X8_planGoes_54 : zin zm_X8_planGoes.2.2.2.2.2 54 = some (.iload_n 2, 1) := by rw [It_X8_planGoes]; rfl
theorem I_X8_planGoes_55 : zin zm_X8_planGoes.2.2.2.2.2 55 = some (.bipush (-4), 2) := by rw [It_X8_planGoes]; rfl
theorem I_X8_planGoes_57 : zin zm_X8_planGoes.2.2.2.2.2 57 = some (.iastore, 1) := by rw [It_X8_planGoes]; rfl
theorem I_X8_planGoes_58 : zin zm_X8_planGoes.2.2.2.2.2 58 = some (.iload_n 3, 1) := by rw [It_X8_planGoes]; rfl
theorem I_X8_planGoes_59 : zin zm_X8_planGoes.2.2.2.2.2 59 = some (.ifCond .ne 12, 3) := by rw [It_X8_planGoes]; rfl
theorem I_X8_planGoes_62 : zin zm_X8_planGoes.2.2.2.2.2 62 = some (.aload_n 0, 1) := by rw [It_X8_planGoes]; rfl
theorem I_X8_planGoes_63 : zin zm_X8_planGoes.2.2.2.2.2 63 = some (.bipush 108, 2) := by rw [It_X8_planGoes]; rfl
theorem I_X8_planGoes_65 : zin zm_X8_planGoes.2.2.2.2.2 65 = some (.invokevirtual 176, 3) := by rw [It_X8_planGoes]; rfl
theorem I_X8_planGoes_68 : zin zm_X8_planGoes.2.2.2.2.2 68 = some (.goto 121, 3) := by rw [It_X8_planGoes]; rfl
theorem I_X8_planGoes_71 : zin zm_X8_planGoes.2.2.2.2.2 71 = some (.iload_n 3, 1) := by rw [It_X8_planGoes]; rfl
theorem I_X8_planGoes_72 : zin zm_X8_planGoes.2.2.2.2.2 72 = some (.ifCond .le 117, 3) := by rw [It_X8_planGoes]; rfl
theorem I_X8_planGoes_75 : zin zm_X8_planGoes.2.2.2.2.2 75 = some (.iload_n 3, 1) := by rw [It_X8_planGoes]; rfl
theorem I_X8_planGoes_76 : zin zm_X8_planGoes.2.2.2.2.2 76 = some (.iload_n 1, 1) := by rw [It_X8_planGoes]; rfl
theorem I_X8_planGoes_77 : zin zm_X8_planGoes.2.2.2.2.2 77 = some (.iconst (-1), 1) := by rw [It_X8_planGoes]; rfl
theorem I_X8_planGoes_78 : zin zm_X8_planGoes.2.2.2.2.2 78 = some (.ixor, 1) := by rw [It_X8_planGoes]; rfl
theorem I_X8_planGoes_79 : zin zm_X8_planGoes.2.2.2.2.2 79 = some (.iand, 1) := by rw [It_X8_planGoes]; rfl
theorem I_X8_planGoes_80 : zin zm_X8_planGoes.2.2.2.2.2 80 = some (.ifCond .eq 109, 3) := by rw [It_X8_planGoes]; rfl
theorem I_X8_planGoes_83 : zin zm_X8_planGoes.2.2.2.2.2 83 = some (.aload_n 0, 1) := by rw [It_X8_planGoes]; rfl
theorem I_X8_planGoes_84 : zin zm_X8_planGoes.2.2.2.2.2 84 = some (.getfield 28, 3) := by rw [It_X8_planGoes]; rfl
theorem I_X8_planGoes_87 : zin zm_X8_planGoes.2.2.2.2.2 87 = some (.iload_n 2, 1) := by rw [It_X8_planGoes]; rfl
theorem I_X8_planGoes_88 : zin zm_X8_planGoes.2.2.2.2.2 88 = some (.aload_n 0, 1) := by rw [It_X8_planGoes]; rfl
theorem I_X8_planGoes_89 : zin zm_X8_planGoes.2.2.2.2.2 89 = some (.bipush 108, 2) := by rw [It_X8_planGoes]; rfl
theorem I_X8_planGoes_91 : zin zm_X8_planGoes.2.2.2.2.2 91 = some (.iload_n 3, 1) := by rw [It_X8_planGoes]; rfl
theorem I_X8_planGoes_92 : zin zm_X8_planGoes.2.2.2.2.2 92 = some (.iload_n 1, 1) := by rw [It_X8_planGoes]; rfl
theorem I_X8_planGoes_93 : zin zm_X8_planGoes.2.2.2.2.2 93 = some (.iconst (-1), 1) := by rw [It_X8_planGoes]; rfl
theorem I_X8_planGoes_94 : zin zm_X8_planGoes.2.2.2.2.2 94 = some (.ixor, 1) := by rw [It_X8_planGoes]; rfl
theorem I_X8_planGoes_95 : zin zm_X8_planGoes.2.2.2.2.2 95 = some (.iand, 1) := by rw [It_X8_planGoes]; rfl
theorem I_X8_planGoes_96 : zin zm_X8_planGoes.2.2.2.2.2 96 = some (.invokevirtual 170, 3) := by rw [It_X8_planGoes]; rfl
theorem I_X8_planGoes_99 : zin zm_X8_planGoes.2.2.2.2.2 99 = some (.iastore, 1) := by rw [It_X8_planGoes]; rfl
theorem I_X8_planGoes_100 : zin zm_X8_planGoes.2.2.2.2.2 100 = some (.aload_n 0, 1) := by rw [It_X8_planGoes]; rfl
theorem I_X8_planGoes_101 : zin zm_X8_planGoes.2.2.2.2.2 101 = some (.dup, 1) := by rw [It_X8_planGoes]; rfl
theorem I_X8_planGoes_102 : zin zm_X8_planGoes.2.2.2.2.2 102 = some (.getfield 179, 3) := by rw [It_X8_planGoes]; rfl
theorem I_X8_planGoes_105 : zin zm_X8_planGoes.2.2.2.2.2 105 = some (.aload_n 0, 1) := by rw [It_X8_planGoes]; rfl
theorem I_X8_planGoes_106 : zin zm_X8_planGoes.2.2.2.2.2 106 = some (.getfield 28, 3) := by rw [It_X8_planGoes]; rfl
theorem I_X8_planGoes_109 : zin zm_X8_planGoes.2.2.2.2.2 109 = some (.iload_n 2, 1) := by rw [It_X8_planGoes]; rfl
theorem I_X8_planGoes_110 : zin zm_X8_planGoes.2.2.2.2.2 110 = some (.iaload, 1) := by rw [It_X8_planGoes]; rfl
theorem I_X8_planGoes_111 : zin zm_X8_planGoes.2.2.2.2.2 111 = some (.bipush (-4), 2) := by rw [It_X8_planGoes]; rfl
theorem I_X8_planGoes_113 : zin zm_X8_planGoes.2.2.2.2.2 113 = some (.if_icmp .ne 7, 3) := by rw [It_X8_planGoes]; rfl
theorem I_X8_planGoes_116 : zin zm_X8_planGoes.2.2.2.2.2 116 = some (.iconst 0, 1) := by rw [It_X8_planGoes]; rfl
theorem I_X8_planGoes_117 : zin zm_X8_planGoes.2.2.2.2.2 117 = some (.goto 4, 3) := by rw [It_X8_planGoes]; rfl
theorem I_X8_planGoes_120 : zin zm_X8_planGoes.2.2.2.2.2 120 = some (.iconst 1, 1) := by rw [It_X8_planGoes]; rfl
theorem I_X8_planGoes_121 : zin zm_X8_planGoes.2.2.2.2.2 121 = some (.iadd, 1) := by rw [It_X8_planGoes]; rfl
theorem I_X8_planGoes_122 : zin zm_X8_planGoes.2.2.2.2.2 122 = some (.putfield 179, 3) := by rw [It_X8_planGoes]; rfl
theorem I_X8_planGoes_125 : zin zm_X8_planGoes.2.2.2.2.2 125 = some (.aload_n 0, 1) := by rw [It_X8_planGoes]; rfl
theorem I_X8_planGoes_126 : zin zm_X8_planGoes.2.2.2.2.2 126 = some (.dup, 1) := by rw [It_X8_planGoes]; rfl
theorem I_X8_planGoes_127 : zin zm_X8_planGoes.2.2.2.2.2 127 = some (.getfield 182, 3) := by rw [It_X8_planGoes]; rfl
theorem I_X8_planGoes_130 : zin zm_X8_planGoes.2.2.2.2.2 130 = some (.aload_n 0, 1) := by rw [It_X8_planGoes]; rfl
theorem I_X8_planGoes_131 : zin zm_X8_planGoes.2.2.2.2.2 131 = some (.getfield 28, 3) := by rw [It_X8_planGoes]; rfl
theorem I_X8_planGoes_134 : zin zm_X8_planGoes.2.2.2.2.2 134 = some (.iload_n 2, 1) := by rw [It_X8_planGoes]; rfl
theorem I_X8_planGoes_135 : zin zm_X8_planGoes.2.2.2.2.2 135 = some (.iaload, 1) := by rw [It_X8_planGoes]; rfl
theorem I_X8_planGoes_136 : zin zm_X8_planGoes.2.2.2.2.2 136 = some (.bipush (-4), 2) := by rw [It_X8_planGoes]; rfl
theorem I_X8_planGoes_138 : zin zm_X8_planGoes.2.2.2.2.2 138 = some (.if_icmp .ne 7, 3) := by rw [It_X8_planGoes]; rfl
theorem I_X8_planGoes_141 : zin zm_X8_planGoes.2.2.2.2.2 141 = some (.iconst 0, 1) := by rw [It_X8_planGoes]; rfl
theorem I_X8_planGoes_142 : zin zm_X8_planGoes.2.2.2.2.2 142 = some (.goto 11, 3) := by rw [It_X8_planGoes]; rfl
theorem I_X8_planGoes_145 : zin zm_X8_planGoes.2.2.2.2.2 145 = some (.iconst 1, 1) := by rw [It_X8_planGoes]; rfl
theorem I_X8_planGoes_146 : zin zm_X8_planGoes.2.2.2.2.2 146 = some (.aload_n 0, 1) := by rw [It_X8_planGoes]; rfl
theorem I_X8_planGoes_147 : zin zm_X8_planGoes.2.2.2.2.2 147 = some (.getfield 28, 3) := by rw [It_X8_planGoes]; rfl
theorem I_X8_planGoes_150 : zin zm_X8_planGoes.2.2.2.2.2 150 = some (.iload_n 2, 1) := by rw [It_X8_planGoes]; rfl
theorem I_X8_planGoes_151 : zin zm_X8_planGoes.2.2.2.2.2 151 = some (.iaload, 1) := by rw [It_X8_planGoes]; rfl
theorem I_X8_planGoes_152 : zin zm_X8_planGoes.2.2.2.2.2 152 = some (.ishl, 1) := by rw [It_X8_planGoes]; rfl
theorem I_X8_planGoes_153 : zin zm_X8_planGoes.2.2.2.2.2 153 = some (.ior, 1) := by rw [It_X8_planGoes]; rfl
theorem I_X8_planGoes_154 : zin zm_X8_planGoes.2.2.2.2.2 154 = some (.putfield 182, 3) := by rw [It_X8_planGoes]; rfl
theorem I_X8_planGoes_157 : zin zm_X8_planGoes.2.2.2.2.2 157 = some (.aload_n 0, 1) := by rw [It_X8_planGoes]; rfl
theorem I_X8_planGoes_158 : zin zm_X8_planGoes.2.2.2.2.2 158 = some (.aload_n 0, 1) := by rw [It_X8_planGoes]; rfl
theorem I_X8_planGoes_159 : zin zm_X8_planGoes.2.2.2.2.2 159 = some (.getfield 28, 3) := by rw [It_X8_planGoes]; rfl
theorem I_X8_planGoes_162 : zin zm_X8_planGoes.2.2.2.2.2 162 = some (.iload_n 2, 1) := by rw [It_X8_planGoes]; rfl
theorem I_X8_planGoes_163 : zin zm_X8_planGoes.2.2.2.2.2 163 = some (.iaload, 1) := by rw [It_X8_planGoes]; rfl
theorem I_X8_planGoes_164 : zin zm_X8_planGoes.2.2.2.2.2 164 = some (.bipush (-4), 2) := by rw [It_X8_planGoes]; rfl
theorem I_X8_planGoes_166 : zin zm_X8_planGoes.2.2.2.2.2 166 = some (.if_icmp .ne 16, 3) := by rw [It_X8_planGoes]; rfl
theorem I_X8_planGoes_169 : zin zm_X8_planGoes.2.2.2.2.2 169 = some (.aload_n 0, 1) := by rw [It_X8_planGoes]; rfl
theorem I_X8_planGoes_170 : zin zm_X8_planGoes.2.2.2.2.2 170 = some (.getfield 185, 3) := by rw [It_X8_planGoes]; rfl
theorem I_X8_planGoes_173 : zin zm_X8_planGoes.2.2.2.2.2 173 = some (.bipush (-4), 2) := by rw [It_X8_planGoes]; rfl
theorem I_X8_planGoes_175 : zin zm_X8_planGoes.2.2.2.2.2 175 = some (.if_icmp .ne 7, 3) := by rw [It_X8_planGoes]; rfl
theorem I_X8_planGoes_178 : zin zm_X8_planGoes.2.2.2.2.2 178 = some (.iload_n 2, 1) := by rw [It_X8_planGoes]; rfl
theorem I_X8_planGoes_179 : zin zm_X8_planGoes.2.2.2.2.2 179 = some (.goto 7, 3) := by rw [It_X8_planGoes]; rfl
theorem I_X8_planGoes_182 : zin zm_X8_planGoes.2.2.2.2.2 182 = some (.aload_n 0, 1) := by rw [It_X8_planGoes]; rfl
theorem I_X8_planGoes_183 : zin zm_X8_planGoes.2.2.2.2.2 183 = some (.getfield 185, 3) := by rw [It_X8_planGoes]; rfl
theorem I_X8_planGoes_186 : zin zm_X8_planGoes.2.2.2.2.2 186 = some (.putfield 185, 3) := by rw [It_X8_planGoes]; rfl
theorem I_X8_planGoes_189 : zin zm_X8_planGoes.2.2.2.2.2 189 = some (.iinc 2 1, 3) := by rw [It_X8_planGoes]; rfl
theorem I_X8_planGoes_192 : zin zm_X8_planGoes.2.2.2.2.2 192 = some (.goto (-174), 3) := by rw [It_X8_planGoes]; rfl
theorem I_X8_planGoes_195 : zin zm_X8_planGoes.2.2.2.2.2 195 = some (.return_, 1) := by rw [It_X8_planGoes]; rfl
theorem G_8_28 : zlk zfls 8 28 = some (8, 21, 862) := rfl
theorem G_8_179 : zlk zfls 8 179 = some (8, 18, 859) := rfl
theorem G_8_182 : zlk zfls 8 182 = some (8, 19, 860) := rfl
theorem G_8_185 : zlk zfls 8 185 = some (8, 20, 861) := rfl
theorem K_3_32 : zlk zmls 3 32 = some (1, 193, 2, 602) := rfl
theorem K_8_170 : zlk zmls 8 170 = some (0, 142, 2, 1060) := rfl
theorem K_8_176 : zlk zmls 8 176 = some (0, 143, 1, 1068) := rfl
theorem Zm_142 : zms[142]? = some zm_X8_triesOn := rfl
theorem Zm_143 : zms[143]? = some zm_X8_restsOn := rfl
theorem Zm_193 : zms[193]? = some zm_J7_fill_53178 := rfl
theorem LY_78 : zLY[78]? = some (Sum.inl 0, List.replicate 8 none) := rfl
theorem cl_X8_planGoes : zm_X8_planGoes.2.2.2.2.1 = 8 := by
  unfold zm_X8_planGoes
  rfl
theorem cn_X8_planGoes : zm_X8_planGoes.2.2.2.2.1 ≠ 12 := by
  rw [cl_X8_planGoes]
  decide
theorem cn2_X8_planGoes : zm_X8_planGoes.2.2.2.2.1 ≠ 2 := by
  rw [cl_X8_planGoes]
  decide
def zPy0 (g : Nat → Int32) : zPy := (g, 0, 0, -4, fun _ => -4)
def zna (g : Nat → Int32) : Nat := (g 26).toNatClampNeg
theorem t_X3_play {d : Nat} {m : zM} {r : Option Value} {h' : zHp} {c : Nat} {mk : Int32} {g : Nat → Int32} (hL : LV m 20 c g) (hg : gok g c) (H : zE none d zm_X3_play 0 [.ref 19, .int mk, .null, .null] [] m r h') : ∃ m1, r = some (.int (pPlays c mk (zna g) 0 (zPy0 g)).2.1) ∧ h' = zhp m1 ∧ cP m1 c (pPlays c mk (zna g) 0 (zPy0 g)) ∧ ∀ x y, ¬ (19 ≤ x ∧ x ≤ 28) → m1 x y = m x y := by
  obtain ⟨q1, q2, q3, q4, q5, b, b1, b2, b3, b4⟩ := id hL
  have en : zna g = b := by unfold zna; rw [b2, Int32.toNatClampNeg_ofNat_of_lt (by omega)]
  replace H := i_aln (q := 1) H I_X3_play_0 rfl rfl
  replace H := i_icst (x := 0) (q := 2) H I_X3_play_1 (by decide) rfl
  replace H := i_pf (q := 5) H I_X3_play_2 G_3_22 cn_X3_play LY_19 rfl rfl
  replace H := i_aln (q := 6) H I_X3_play_5 rfl rfl
  replace H := i_icst (x := 0) (q := 7) H I_X3_play_6 (by decide) rfl
  replace H := i_pf (q := 10) H I_X3_play_7 G_3_26 cn_X3_play LY_19 rfl rfl
  replace H := i_aln (q := 11) H I_X3_play_10 rfl rfl
  replace H := i_bip (x := (-4)) (q := 13) H I_X3_play_11 (by decide) rfl
  replace H := i_pf (q := 16) H I_X3_play_13 G_3_29 cn_X3_play LY_19 rfl rfl
  replace H := i_aln (q := 17) H I_X3_play_16 rfl rfl
  replace H := i_gfr (q := 20) H I_X3_play_17 G_3_18 cn_X3_play LY_19 rfl rfl
  replace H := i_bip (x := (-4)) (q := 22) H I_X3_play_20 (by decide) rfl
  have W := i_cs2 2 (q := 25) H I_X3_play_22 K_3_32 Zm_193 rfl rfl
  clear H
  obtain ⟨r1, h1, Hc, K1, K2⟩ := W
  obtain ⟨M_22, e1, e2, F_22⟩ := t_fill LY_28 (by omega) Hc
  have H := K2 _ e1 e2
  clear e1 e2 Hc K1 K2
  replace H := i_icst (x := 0) (q := 26) H I_X3_play_25 (by decide) rfl
  replace H := i_isn (q := 27) H I_X3_play_26 rfl rfl
  obtain ⟨f1, f2⟩ := F_22
  have hS : cP M_22 c (zPy0 g) := by
    refine ⟨LV_f hL (fun x y h1 h2 => by rw [f2 x y (by omega), zup_n (by omega), zup_n (by omega), zup_n (by omega)]), ?_, ?_, ?_, fun i hi => f1 i hi⟩
    · rw [f2 _ _ (by omega), zup_n (by omega), zup_n (by omega), zup_s]; rfl
    · rw [f2 _ _ (by omega), zup_n (by omega), zup_s]; rfl
    · rw [f2 _ _ (by omega), zup_s]; rfl
  obtain ⟨m1, x1, x2, x3, x4⟩ := py_loop (c := c) (mk := mk) b1 b 0 (zPy0 g) d r h' M_22 (by omega) hS hg b2 H
  rw [en]
  exact ⟨m1, x1, x2, x3, fun x y hxy => by rw [x4 x y hxy, f2 x y (by omega), zup_n (by omega), zup_n (by omega), zup_n (by omega)]⟩
/-- the reference's trial page, before its i-th act -/
def rP (m : zM) (i : Nat) (P : zPy) : Prop := PG m 108 P.1 ∧ m 71 18 = P.2.1 ∧ m 71 19 = P.2.2.1 ∧ m 71 20 = P.2.2.2.1 ∧ ∀ j, j < i → m 78 j = P.2.2.2.2 j
def gpl (g : Nat → Int32) : Prop := ∀ j, j < 8 → 0 ≤ (g (18 + j)).toInt ∧ (g (18 + j)).toInt ≤ 31
theorem pAct_e {c i : Nat} {mk : Int32} {P : zPy} {k : Nat} (h : ¬ k = i) : (pAct c mk i P).2.2.2.2 k = P.2.2.2.2 k := by
  unfold pAct
  split
  · rfl
  · split
    · rfl
    · exact gset_n h
def zfP (m m1 : zM) : Prop := ∀ x y, ¬ (x = 72 ∧ 108 ≤ y) → ¬ (x = 71 ∧ 18 ≤ y ∧ y ≤ 20) → ¬ x = 78 → m1 x y = m x y
theorem zfP_t {m m1 m2 : zM} (h1 : zfP m m1) (h2 : zfP m1 m2) : zfP m m2 := fun x y a b c => (h2 x y a b c).trans (h1 x y a b c)
theorem pg_loop {c a : Nat} {aw : Int32} (ha8 : a ≤ 8) : ∀ (j i : Nat) (P : zPy) (d : Nat) (r : Option Value) (h' : zHp) (m : zM), i + j = 8 → rP m i P → gok P.1 c → P.1 26 = Int32.ofNat a → gpl P.1 → (∀ k, i ≤ k → P.2.2.2.2 k = -4) → m 71 2 = Int32.ofNat c → zMk m → zE none d zm_X8_planGoes 18 [.ref 71, .int aw, .int (Int32.ofNat i), .null] [] m r h' → ∃ m1, r = none ∧ h' = zhp m1 ∧ rP m1 8 (pPlays c (aw ^^^ -1) (a - i) i P) ∧ zfP m m1 := by
  intro j
  induction j with
  | zero =>
    intro i P d r h' m hj hS hg h26 hpl hen hc hM H
    replace H := i_iln (q := 19) H I_X8_planGoes_18 rfl rfl
    replace H := i_bip (x := 8) (q := 21) H I_X8_planGoes_19 (by decide) rfl
    have W := i_ic_ge (t := 195) (q := 24) H I_X8_planGoes_21 (by decide) rfl
    clear H
    rcases W with ⟨c_21, H⟩ | ⟨c_21, H⟩
    · skip
      obtain ⟨hr, hh⟩ := i_rt H I_X8_planGoes_195
      have e : i = 8 := by omega
      subst e
      rw [show a - 8 = 0 by omega]
      exact ⟨m, hr, hh, hS, fun _ _ _ _ _ => rfl⟩
    · skip
      replace H := i_iln (q := 25) H I_X8_planGoes_24 rfl rfl
      replace H := i_aln (q := 26) H I_X8_planGoes_25 rfl rfl
      replace H := i_gfr (q := 29) H I_X8_planGoes_26 G_8_7 cn_X8_planGoes LY_71 rfl rfl
      replace H := i_sip (x := 134) (q := 32) H I_X8_planGoes_29 (by decide) rfl
      have W := i_ia (q := 33) H I_X8_planGoes_32 LY_72 rfl
      clear H
      obtain ⟨i_32, bi_32, ei_32, H⟩ := W
      have W := i_ic_ge (t := 48) (q := 36) H I_X8_planGoes_33 (by decide) rfl
      clear H
      rcases W with ⟨c_33, H⟩ | ⟨c_33, H⟩
      · skip
        replace H := i_icst (x := (-1)) (q := 49) H I_X8_planGoes_48 (by decide) rfl
        replace H := i_isn (q := 50) H I_X8_planGoes_49 rfl rfl
        replace H := i_aln (q := 51) H I_X8_planGoes_50 rfl rfl
        replace H := i_gfr (q := 54) H I_X8_planGoes_51 G_8_28 cn_X8_planGoes LY_71 rfl rfl
        replace H := i_iln (q := 55) H I_X8_planGoes_54 rfl rfl
        replace H := i_bip (x := (-4)) (q := 57) H I_X8_planGoes_55 (by decide) rfl
        have W := i_iast (q := 58) H I_X8_planGoes_57 LY_78 rfl
        clear H
        obtain ⟨i_57, bi_57, ei_57, H⟩ := W
        replace H := i_iln (q := 59) H I_X8_planGoes_58 rfl rfl
        have W := i_if_ne (t := 71) (q := 62) H I_X8_planGoes_59 (by decide) rfl
        clear H
        rcases W with ⟨c_59, H⟩ | ⟨c_59, H⟩
        · skip
          replace H := i_iln (q := 72) H I_X8_planGoes_71 rfl rfl
          have W := i_if_le (t := 189) (q := 75) H I_X8_planGoes_72 (by decide) rfl
          clear H
          rcases W with ⟨c_72, H⟩ | ⟨c_72, H⟩
          · skip
            replace H := i_inc (q := 192) H I_X8_planGoes_189 rfl rfl rfl
            replace H := i_goto (q := 18) H I_X8_planGoes_192 (by decide)
            exfalso
            exact absurd ((zofn_lt (j := 8) (by omega) (by decide)).mp c_21) (by omega)
          · skip
            replace H := i_iln (q := 76) H I_X8_planGoes_75 rfl rfl
            replace H := i_iln (q := 77) H I_X8_planGoes_76 rfl rfl
            replace H := i_icst (x := (-1)) (q := 78) H I_X8_planGoes_77 (by decide) rfl
            replace H := i_ixor (q := 79) H I_X8_planGoes_78 rfl
            replace H := i_iand (q := 80) H I_X8_planGoes_79 rfl
            have W := i_if_eq (t := 189) (q := 83) H I_X8_planGoes_80 (by decide) rfl
            clear H
            rcases W with ⟨c_80, H⟩ | ⟨c_80, H⟩
            · skip
              replace H := i_inc (q := 192) H I_X8_planGoes_189 rfl rfl rfl
              replace H := i_goto (q := 18) H I_X8_planGoes_192 (by decide)
              exfalso
              exact absurd ((zofn_lt (j := 8) (by omega) (by decide)).mp c_21) (by omega)
            · skip
              replace H := i_aln (q := 84) H I_X8_planGoes_83 rfl rfl
              replace H := i_gfr (q := 87) H I_X8_planGoes_84 G_8_28 cn_X8_planGoes LY_71 rfl rfl
              replace H := i_iln (q := 88) H I_X8_planGoes_87 rfl rfl
              replace H := i_aln (q := 89) H I_X8_planGoes_88 rfl rfl
              replace H := i_bip (x := 108) (q := 91) H I_X8_planGoes_89 (by decide) rfl
              replace H := i_iln (q := 92) H I_X8_planGoes_91 rfl rfl
              replace H := i_iln (q := 93) H I_X8_planGoes_92 rfl rfl
              replace H := i_icst (x := (-1)) (q := 94) H I_X8_planGoes_93 (by decide) rfl
              replace H := i_ixor (q := 95) H I_X8_planGoes_94 rfl
              replace H := i_iand (q := 96) H I_X8_planGoes_95 rfl
              have W := i_cv2 3 (q := 99) H I_X8_planGoes_96 K_8_170 Zm_142 rfl rfl
              clear H
              obtain ⟨r1, h1, Hc, K1, K2⟩ := W
              obtain ⟨M_96, e1, e2, F_96⟩ := t_X8_triesOn (pg := 108) (g := P.1) (c := c) ⟨hS.1.1, fun j hj => by rw [zup_n (by omega)]; exact hS.1.2 j hj⟩ hg (by rw [zup_n (by omega)]; exact hc) (by unfold zMk; rw [zup_n (by omega), zup_n (by omega), zup_n (by omega), zup_n (by omega)]; exact hM) Hc
              have H := K1 _ _ e1 e2
              clear e1 e2 Hc K1 K2
              have W := i_iast (q := 100) H I_X8_planGoes_99 LY_78 rfl
              clear H
              obtain ⟨i_99, bi_99, ei_99, H⟩ := W
              replace H := i_aln (q := 101) H I_X8_planGoes_100 rfl rfl
              replace H := i_dup (q := 102) H I_X8_planGoes_101 rfl rfl
              replace H := i_gfi (q := 105) H I_X8_planGoes_102 G_8_179 cn_X8_planGoes LY_71 rfl rfl
              replace H := i_aln (q := 106) H I_X8_planGoes_105 rfl rfl
              replace H := i_gfr (q := 109) H I_X8_planGoes_106 G_8_28 cn_X8_planGoes LY_71 rfl rfl
              replace H := i_iln (q := 110) H I_X8_planGoes_109 rfl rfl
              have W := i_ia (q := 111) H I_X8_planGoes_110 LY_78 rfl
              clear H
              obtain ⟨i_110, bi_110, ei_110, H⟩ := W
              replace H := i_bip (x := (-4)) (q := 113) H I_X8_planGoes_111 (by decide) rfl
              have W := i_ic_ne (t := 120) (q := 116) H I_X8_planGoes_113 (by decide) rfl
              clear H
              rcases W with ⟨c_113, H⟩ | ⟨c_113, H⟩
              · skip
                replace H := i_icst (x := 1) (q := 121) H I_X8_planGoes_120 (by decide) rfl
                replace H := i_iadd (q := 122) H I_X8_planGoes_121 rfl
                replace H := i_pf (q := 125) H I_X8_planGoes_122 G_8_179 cn_X8_planGoes LY_71 rfl rfl
                replace H := i_aln (q := 126) H I_X8_planGoes_125 rfl rfl
                replace H := i_dup (q := 127) H I_X8_planGoes_126 rfl rfl
                replace H := i_gfi (q := 130) H I_X8_planGoes_127 G_8_182 cn_X8_planGoes LY_71 rfl rfl
                replace H := i_aln (q := 131) H I_X8_planGoes_130 rfl rfl
                replace H := i_gfr (q := 134) H I_X8_planGoes_131 G_8_28 cn_X8_planGoes LY_71 rfl rfl
                replace H := i_iln (q := 135) H I_X8_planGoes_134 rfl rfl
                have W := i_ia (q := 136) H I_X8_planGoes_135 LY_78 rfl
                clear H
                obtain ⟨i_135, bi_135, ei_135, H⟩ := W
                replace H := i_bip (x := (-4)) (q := 138) H I_X8_planGoes_136 (by decide) rfl
                have W := i_ic_ne (t := 145) (q := 141) H I_X8_planGoes_138 (by decide) rfl
                clear H
                rcases W with ⟨c_138, H⟩ | ⟨c_138, H⟩
                · skip
                  replace H := i_icst (x := 1) (q := 146) H I_X8_planGoes_145 (by decide) rfl
                  replace H := i_aln (q := 147) H I_X8_planGoes_146 rfl rfl
                  replace H := i_gfr (q := 150) H I_X8_planGoes_147 G_8_28 cn_X8_planGoes LY_71 rfl rfl
                  replace H := i_iln (q := 151) H I_X8_planGoes_150 rfl rfl
                  have W := i_ia (q := 152) H I_X8_planGoes_151 LY_78 rfl
                  clear H
                  obtain ⟨i_151, bi_151, ei_151, H⟩ := W
                  replace H := i_ishl (q := 153) H I_X8_planGoes_152 rfl
                  replace H := i_ior (q := 154) H I_X8_planGoes_153 rfl
                  replace H := i_pf (q := 157) H I_X8_planGoes_154 G_8_182 cn_X8_planGoes LY_71 rfl rfl
                  replace H := i_aln (q := 158) H I_X8_planGoes_157 rfl rfl
                  replace H := i_aln (q := 159) H I_X8_planGoes_158 rfl rfl
                  replace H := i_gfr (q := 162) H I_X8_planGoes_159 G_8_28 cn_X8_planGoes LY_71 rfl rfl
                  replace H := i_iln (q := 163) H I_X8_planGoes_162 rfl rfl
                  have W := i_ia (q := 164) H I_X8_planGoes_163 LY_78 rfl
                  clear H
                  obtain ⟨i_163, bi_163, ei_163, H⟩ := W
                  replace H := i_bip (x := (-4)) (q := 166) H I_X8_planGoes_164 (by decide) rfl
                  have W := i_ic_ne (t := 182) (q := 169) H I_X8_planGoes_166 (by decide) rfl
                  clear H
                  rcases W with ⟨c_166, H⟩ | ⟨c_166, H⟩
                  · skip
                    replace H := i_aln (q := 183) H I_X8_planGoes_182 rfl rfl
                    replace H := i_gfi (q := 186) H I_X8_planGoes_183 G_8_185 cn_X8_planGoes LY_71 rfl rfl
                    replace H := i_pf (q := 189) H I_X8_planGoes_186 G_8_185 cn_X8_planGoes LY_71 rfl rfl
                    replace H := i_inc (q := 192) H I_X8_planGoes_189 rfl rfl rfl
                    replace H := i_goto (q := 18) H I_X8_planGoes_192 (by decide)
                    exfalso
                    exact absurd ((zofn_lt (j := 8) (by omega) (by decide)).mp c_21) (by omega)
                  · skip
                    replace H := i_aln (q := 170) H I_X8_planGoes_169 rfl rfl
                    replace H := i_gfi (q := 173) H I_X8_planGoes_170 G_8_185 cn_X8_planGoes LY_71 rfl rfl
                    replace H := i_bip (x := (-4)) (q := 175) H I_X8_planGoes_173 (by decide) rfl
                    have W := i_ic_ne (t := 182) (q := 178) H I_X8_planGoes_175 (by decide) rfl
                    clear H
                    rcases W with ⟨c_175, H⟩ | ⟨c_175, H⟩
                    · skip
                      replace H := i_aln (q := 183) H I_X8_planGoes_182 rfl rfl
                      replace H := i_gfi (q := 186) H I_X8_planGoes_183 G_8_185 cn_X8_planGoes LY_71 rfl rfl
                      replace H := i_pf (q := 189) H I_X8_planGoes_186 G_8_185 cn_X8_planGoes LY_71 rfl rfl
                      replace H := i_inc (q := 192) H I_X8_planGoes_189 rfl rfl rfl
                      replace H := i_goto (q := 18) H I_X8_planGoes_192 (by decide)
                      exfalso
                      exact absurd ((zofn_lt (j := 8) (by omega) (by decide)).mp c_21) (by omega)
                    · skip
                      replace H := i_iln (q := 179) H I_X8_planGoes_178 rfl rfl
                      replace H := i_goto (q := 186) H I_X8_planGoes_179 (by decide)
                      replace H := i_pf (q := 189) H I_X8_planGoes_186 G_8_185 cn_X8_planGoes LY_71 rfl rfl
                      replace H := i_inc (q := 192) H I_X8_planGoes_189 rfl rfl rfl
                      replace H := i_goto (q := 18) H I_X8_planGoes_192 (by decide)
                      exfalso
                      exact absurd ((zofn_lt (j := 8) (by omega) (by decide)).mp c_21) (by omega)
                · skip
                  replace H := i_icst (x := 0) (q := 142) H I_X8_planGoes_141 (by decide) rfl
                  replace H := i_goto (q := 153) H I_X8_planGoes_142 (by decide)
                  replace H := i_ior (q := 154) H I_X8_planGoes_153 rfl
                  replace H := i_pf (q := 157) H I_X8_planGoes_154 G_8_182 cn_X8_planGoes LY_71 rfl rfl
                  replace H := i_aln (q := 158) H I_X8_planGoes_157 rfl rfl
                  replace H := i_aln (q := 159) H I_X8_planGoes_158 rfl rfl
                  replace H := i_gfr (q := 162) H I_X8_planGoes_159 G_8_28 cn_X8_planGoes LY_71 rfl rfl
                  replace H := i_iln (q := 163) H I_X8_planGoes_162 rfl rfl
                  have W := i_ia (q := 164) H I_X8_planGoes_163 LY_78 rfl
                  clear H
                  obtain ⟨i_163, bi_163, ei_163, H⟩ := W
                  replace H := i_bip (x := (-4)) (q := 166) H I_X8_planGoes_164 (by decide) rfl
                  have W := i_ic_ne (t := 182) (q := 169) H I_X8_planGoes_166 (by decide) rfl
                  clear H
                  rcases W with ⟨c_166, H⟩ | ⟨c_166, H⟩
                  · skip
                    replace H := i_aln (q := 183) H I_X8_planGoes_182 rfl rfl
                    replace H := i_gfi (q := 186) H I_X8_planGoes_183 G_8_185 cn_X8_planGoes LY_71 rfl rfl
                    replace H := i_pf (q := 189) H I_X8_planGoes_186 G_8_185 cn_X8_planGoes LY_71 rfl rfl
                    replace H := i_inc (q := 192) H I_X8_planGoes_189 rfl rfl rfl
                    replace H := i_goto (q := 18) H I_X8_planGoes_192 (by decide)
                    exfalso
                    exact absurd ((zofn_lt (j := 8) (by omega) (by decide)).mp c_21) (by omega)
                  · skip
                    replace H := i_aln (q := 170) H I_X8_planGoes_169 rfl rfl
                    replace H := i_gfi (q := 173) H I_X8_planGoes_170 G_8_185 cn_X8_planGoes LY_71 rfl rfl
                    replace H := i_bip (x := (-4)) (q := 175) H I_X8_planGoes_173 (by decide) rfl
                    have W := i_ic_ne (t := 182) (q := 178) H I_X8_planGoes_175 (by decide) rfl
                    clear H
                    rcases W with ⟨c_175, H⟩ | ⟨c_175, H⟩
                    · skip
                      replace H := i_aln (q := 183) H I_X8_planGoes_182 rfl rfl
                      replace H := i_gfi (q := 186) H I_X8_planGoes_183 G_8_185 cn_X8_planGoes LY_71 rfl rfl
                      replace H := i_pf (q := 189) H I_X8_planGoes_186 G_8_185 cn_X8_planGoes LY_71 rfl rfl
                      replace H := i_inc (q := 192) H I_X8_planGoes_189 rfl rfl rfl
                      replace H := i_goto (q := 18) H I_X8_planGoes_192 (by decide)
                      exfalso
                      exact absurd ((zofn_lt (j := 8) (by omega) (by decide)).mp c_21) (by omega)
                    · skip
                      replace H := i_iln (q := 179) H I_X8_planGoes_178 rfl rfl
                      replace H := i_goto (q := 186) H I_X8_planGoes_179 (by decide)
                      replace H := i_pf (q := 189) H I_X8_planGoes_186 G_8_185 cn_X8_planGoes LY_71 rfl rfl
                      replace H := i_inc (q := 192) H I_X8_planGoes_189 rfl rfl rfl
                      replace H := i_goto (q := 18) H I_X8_planGoes_192 (by decide)
                      exfalso
                      exact absurd ((zofn_lt (j := 8) (by omega) (by decide)).mp c_21) (by omega)
              · skip
                replace H := i_icst (x := 0) (q := 117) H I_X8_planGoes_116 (by decide) rfl
                replace H := i_goto (q := 121) H I_X8_planGoes_117 (by decide)
                replace H := i_iadd (q := 122) H I_X8_planGoes_121 rfl
                replace H := i_pf (q := 125) H I_X8_planGoes_122 G_8_179 cn_X8_planGoes LY_71 rfl rfl
                replace H := i_aln (q := 126) H I_X8_planGoes_125 rfl rfl
                replace H := i_dup (q := 127) H I_X8_planGoes_126 rfl rfl
                replace H := i_gfi (q := 130) H I_X8_planGoes_127 G_8_182 cn_X8_planGoes LY_71 rfl rfl
                replace H := i_aln (q := 131) H I_X8_planGoes_130 rfl rfl
                replace H := i_gfr (q := 134) H I_X8_planGoes_131 G_8_28 cn_X8_planGoes LY_71 rfl rfl
                replace H := i_iln (q := 135) H I_X8_planGoes_134 rfl rfl
                have W := i_ia (q := 136) H I_X8_planGoes_135 LY_78 rfl
                clear H
                obtain ⟨i_135, bi_135, ei_135, H⟩ := W
                replace H := i_bip (x := (-4)) (q := 138) H I_X8_planGoes_136 (by decide) rfl
                have W := i_ic_ne (t := 145) (q := 141) H I_X8_planGoes_138 (by decide) rfl
                clear H
                rcases W with ⟨c_138, H⟩ | ⟨c_138, H⟩
                · skip
                  replace H := i_icst (x := 1) (q := 146) H I_X8_planGoes_145 (by decide) rfl
                  replace H := i_aln (q := 147) H I_X8_planGoes_146 rfl rfl
                  replace H := i_gfr (q := 150) H I_X8_planGoes_147 G_8_28 cn_X8_planGoes LY_71 rfl rfl
                  replace H := i_iln (q := 151) H I_X8_planGoes_150 rfl rfl
                  have W := i_ia (q := 152) H I_X8_planGoes_151 LY_78 rfl
                  clear H
                  obtain ⟨i_151, bi_151, ei_151, H⟩ := W
                  replace H := i_ishl (q := 153) H I_X8_planGoes_152 rfl
                  replace H := i_ior (q := 154) H I_X8_planGoes_153 rfl
                  replace H := i_pf (q := 157) H I_X8_planGoes_154 G_8_182 cn_X8_planGoes LY_71 rfl rfl
                  replace H := i_aln (q := 158) H I_X8_planGoes_157 rfl rfl
                  replace H := i_aln (q := 159) H I_X8_planGoes_158 rfl rfl
                  replace H := i_gfr (q := 162) H I_X8_planGoes_159 G_8_28 cn_X8_planGoes LY_71 rfl rfl
                  replace H := i_iln (q := 163) H I_X8_planGoes_162 rfl rfl
                  have W := i_ia (q := 164) H I_X8_planGoes_163 LY_78 rfl
                  clear H
                  obtain ⟨i_163, bi_163, ei_163, H⟩ := W
                  replace H := i_bip (x := (-4)) (q := 166) H I_X8_planGoes_164 (by decide) rfl
                  have W := i_ic_ne (t := 182) (q := 169) H I_X8_planGoes_166 (by decide) rfl
                  clear H
                  rcases W with ⟨c_166, H⟩ | ⟨c_166, H⟩
                  · skip
                    replace H := i_aln (q := 183) H I_X8_planGoes_182 rfl rfl
                    replace H := i_gfi (q := 186) H I_X8_planGoes_183 G_8_185 cn_X8_planGoes LY_71 rfl rfl
                    replace H := i_pf (q := 189) H I_X8_planGoes_186 G_8_185 cn_X8_planGoes LY_71 rfl rfl
                    replace H := i_inc (q := 192) H I_X8_planGoes_189 rfl rfl rfl
                    replace H := i_goto (q := 18) H I_X8_planGoes_192 (by decide)
                    exfalso
                    exact absurd ((zofn_lt (j := 8) (by omega) (by decide)).mp c_21) (by omega)
                  · skip
                    replace H := i_aln (q := 170) H I_X8_planGoes_169 rfl rfl
                    replace H := i_gfi (q := 173) H I_X8_planGoes_170 G_8_185 cn_X8_planGoes LY_71 rfl rfl
                    replace H := i_bip (x := (-4)) (q := 175) H I_X8_planGoes_173 (by decide) rfl
                    have W := i_ic_ne (t := 182) (q := 178) H I_X8_planGoes_175 (by decide) rfl
                    clear H
                    rcases W with ⟨c_175, H⟩ | ⟨c_175, H⟩
                    · skip
                      replace H := i_aln (q := 183) H I_X8_planGoes_182 rfl rfl
                      replace H := i_gfi (q := 186) H I_X8_planGoes_183 G_8_185 cn_X8_planGoes LY_71 rfl rfl
                      replace H := i_pf (q := 189) H I_X8_planGoes_186 G_8_185 cn_X8_planGoes LY_71 rfl rfl
                      replace H := i_inc (q := 192) H I_X8_planGoes_189 rfl rfl rfl
                      replace H := i_goto (q := 18) H I_X8_planGoes_192 (by decide)
                      exfalso
                      exact absurd ((zofn_lt (j := 8) (by omega) (by decide)).mp c_21) (by omega)
                    · skip
                      replace H := i_iln (q := 179) H I_X8_planGoes_178 rfl rfl
                      replace H := i_goto (q := 186) H I_X8_planGoes_179 (by decide)
                      replace H := i_pf (q := 189) H I_X8_planGoes_186 G_8_185 cn_X8_planGoes LY_71 rfl rfl
                      replace H := i_inc (q := 192) H I_X8_planGoes_189 rfl rfl rfl
                      replace H := i_goto (q := 18) H I_X8_planGoes_192 (by decide)
                      exfalso
                      exact absurd ((zofn_lt (j := 8) (by omega) (by decide)).mp c_21) (by omega)
                · skip
                  replace H := i_icst (x := 0) (q := 142) H I_X8_planGoes_141 (by decide) rfl
                  replace H := i_goto (q := 153) H I_X8_planGoes_142 (by decide)
                  replace H := i_ior (q := 154) H I_X8_planGoes_153 rfl
                  replace H := i_pf (q := 157) H I_X8_planGoes_154 G_8_182 cn_X8_planGoes LY_71 rfl rfl
                  replace H := i_aln (q := 158) H I_X8_planGoes_157 rfl rfl
                  replace H := i_aln (q := 159) H I_X8_planGoes_158 rfl rfl
                  replace H := i_gfr (q := 162) H I_X8_planGoes_159 G_8_28 cn_X8_planGoes LY_71 rfl rfl
                  replace H := i_iln (q := 163) H I_X8_planGoes_162 rfl rfl
                  have W := i_ia (q := 164) H I_X8_planGoes_163 LY_78 rfl
                  clear H
                  obtain ⟨i_163, bi_163, ei_163, H⟩ := W
                  replace H := i_bip (x := (-4)) (q := 166) H I_X8_planGoes_164 (by decide) rfl
                  have W := i_ic_ne (t := 182) (q := 169) H I_X8_planGoes_166 (by decide) rfl
                  clear H
                  rcases W with ⟨c_166, H⟩ | ⟨c_166, H⟩
                  · skip
                    replace H := i_aln (q := 183) H I_X8_planGoes_182 rfl rfl
                    replace H := i_gfi (q := 186) H I_X8_planGoes_183 G_8_185 cn_X8_planGoes LY_71 rfl rfl
                    replace H := i_pf (q := 189) H I_X8_planGoes_186 G_8_185 cn_X8_planGoes LY_71 rfl rfl
                    replace H := i_inc (q := 192) H I_X8_planGoes_189 rfl rfl rfl
                    replace H := i_goto (q := 18) H I_X8_planGoes_192 (by decide)
                    exfalso
                    exact absurd ((zofn_lt (j := 8) (by omega) (by decide)).mp c_21) (by omega)
                  · skip
                    replace H := i_aln (q := 170) H I_X8_planGoes_169 rfl rfl
                    replace H := i_gfi (q := 173) H I_X8_planGoes_170 G_8_185 cn_X8_planGoes LY_71 rfl rfl
                    replace H := i_bip (x := (-4)) (q := 175) H I_X8_planGoes_173 (by decide) rfl
                    have W := i_ic_ne (t := 182) (q := 178) H I_X8_planGoes_175 (by decide) rfl
                    clear H
                    rcases W with ⟨c_175, H⟩ | ⟨c_175, H⟩
                    · skip
                      replace H := i_aln (q := 183) H I_X8_planGoes_182 rfl rfl
                      replace H := i_gfi (q := 186) H I_X8_planGoes_183 G_8_185 cn_X8_planGoes LY_71 rfl rfl
                      replace H := i_pf (q := 189) H I_X8_planGoes_186 G_8_185 cn_X8_planGoes LY_71 rfl rfl
                      replace H := i_inc (q := 192) H I_X8_planGoes_189 rfl rfl rfl
                      replace H := i_goto (q := 18) H I_X8_planGoes_192 (by decide)
                      exfalso
                      exact absurd ((zofn_lt (j := 8) (by omega) (by decide)).mp c_21) (by omega)
                    · skip
                      replace H := i_iln (q := 179) H I_X8_planGoes_178 rfl rfl
                      replace H := i_goto (q := 186) H I_X8_planGoes_179 (by decide)
                      replace H := i_pf (q := 189) H I_X8_planGoes_186 G_8_185 cn_X8_planGoes LY_71 rfl rfl
                      replace H := i_inc (q := 192) H I_X8_planGoes_189 rfl rfl rfl
                      replace H := i_goto (q := 18) H I_X8_planGoes_192 (by decide)
                      exfalso
                      exact absurd ((zofn_lt (j := 8) (by omega) (by decide)).mp c_21) (by omega)
        · skip
          replace H := i_aln (q := 63) H I_X8_planGoes_62 rfl rfl
          replace H := i_bip (x := 108) (q := 65) H I_X8_planGoes_63 (by decide) rfl
          have W := i_cv1 1 (q := 68) H I_X8_planGoes_65 K_8_176 Zm_143 rfl rfl
          clear H
          obtain ⟨r1, h1, Hc, K1, K2⟩ := W
          obtain ⟨M_65, e1, e2, F_65⟩ := t_X8_restsOn (pg := 108) (g := P.1) ⟨hS.1.1, fun j hj => by rw [zup_n (by omega)]; exact hS.1.2 j hj⟩ Hc
          have H := K2 _ e1 e2
          clear e1 e2 Hc K1 K2
          replace H := i_goto (q := 189) H I_X8_planGoes_68 (by decide)
          replace H := i_inc (q := 192) H I_X8_planGoes_189 rfl rfl rfl
          replace H := i_goto (q := 18) H I_X8_planGoes_192 (by decide)
          exfalso
          exact absurd ((zofn_lt (j := 8) (by omega) (by decide)).mp c_21) (by omega)
      · skip
        replace H := i_aln (q := 37) H I_X8_planGoes_36 rfl rfl
        replace H := i_gfr (q := 40) H I_X8_planGoes_37 G_8_7 cn_X8_planGoes LY_71 rfl rfl
        replace H := i_bip (x := 126) (q := 42) H I_X8_planGoes_40 (by decide) rfl
        replace H := i_iln (q := 43) H I_X8_planGoes_42 rfl rfl
        replace H := i_iadd (q := 44) H I_X8_planGoes_43 rfl
        have W := i_ia (q := 45) H I_X8_planGoes_44 LY_72 rfl
        clear H
        obtain ⟨i_44, bi_44, ei_44, H⟩ := W
        replace H := i_goto (q := 49) H I_X8_planGoes_45 (by decide)
        replace H := i_isn (q := 50) H I_X8_planGoes_49 rfl rfl
        replace H := i_aln (q := 51) H I_X8_planGoes_50 rfl rfl
        replace H := i_gfr (q := 54) H I_X8_planGoes_51 G_8_28 cn_X8_planGoes LY_71 rfl rfl
        replace H := i_iln (q := 55) H I_X8_planGoes_54 rfl rfl
        replace H := i_bip (x := (-4)) (q := 57) H I_X8_planGoes_55 (by decide) rfl
        have W := i_iast (q := 58) H I_X8_planGoes_57 LY_78 rfl
        clear H
        obtain ⟨i_57, bi_57, ei_57, H⟩ := W
        replace H := i_iln (q := 59) H I_X8_planGoes_58 rfl rfl
        have W := i_if_ne (t := 71) (q := 62) H I_X8_planGoes_59 (by decide) rfl
        clear H
        rcases W with ⟨c_59, H⟩ | ⟨c_59, H⟩
        · skip
          replace H := i_iln (q := 72) H I_X8_planGoes_71 rfl rfl
          have W := i_if_le (t := 189) (q := 75) H I_X8_planGoes_72 (by decide) rfl
          clear H
          rcases W with ⟨c_72, H⟩ | ⟨c_72, H⟩
          · skip
            replace H := i_inc (q := 192) H I_X8_planGoes_189 rfl rfl rfl
            replace H := i_goto (q := 18) H I_X8_planGoes_192 (by decide)
            exfalso
            exact absurd ((zofn_lt (j := 8) (by omega) (by decide)).mp c_21) (by omega)
          · skip
            replace H := i_iln (q := 76) H I_X8_planGoes_75 rfl rfl
            replace H := i_iln (q := 77) H I_X8_planGoes_76 rfl rfl
            replace H := i_icst (x := (-1)) (q := 78) H I_X8_planGoes_77 (by decide) rfl
            replace H := i_ixor (q := 79) H I_X8_planGoes_78 rfl
            replace H := i_iand (q := 80) H I_X8_planGoes_79 rfl
            have W := i_if_eq (t := 189) (q := 83) H I_X8_planGoes_80 (by decide) rfl
            clear H
            rcases W with ⟨c_80, H⟩ | ⟨c_80, H⟩
            · skip
              replace H := i_inc (q := 192) H I_X8_planGoes_189 rfl rfl rfl
              replace H := i_goto (q := 18) H I_X8_planGoes_192 (by decide)
              exfalso
              exact absurd ((zofn_lt (j := 8) (by omega) (by decide)).mp c_21) (by omega)
            · skip
              replace H := i_aln (q := 84) H I_X8_planGoes_83 rfl rfl
              replace H := i_gfr (q := 87) H I_X8_planGoes_84 G_8_28 cn_X8_planGoes LY_71 rfl rfl
              replace H := i_iln (q := 88) H I_X8_planGoes_87 rfl rfl
              replace H := i_aln (q := 89) H I_X8_planGoes_88 rfl rfl
              replace H := i_bip (x := 108) (q := 91) H I_X8_planGoes_89 (by decide) rfl
              replace H := i_iln (q := 92) H I_X8_planGoes_91 rfl rfl
              replace H := i_iln (q := 93) H I_X8_planGoes_92 rfl rfl
              replace H := i_icst (x := (-1)) (q := 94) H I_X8_planGoes_93 (by decide) rfl
              replace H := i_ixor (q := 95) H I_X8_planGoes_94 rfl
              replace H := i_iand (q := 96) H I_X8_planGoes_95 rfl
              have W := i_cv2 3 (q := 99) H I_X8_planGoes_96 K_8_170 Zm_142 rfl rfl
              clear H
              obtain ⟨r1, h1, Hc, K1, K2⟩ := W
              obtain ⟨M_96, e1, e2, F_96⟩ := t_X8_triesOn (pg := 108) (g := P.1) (c := c) ⟨hS.1.1, fun j hj => by rw [zup_n (by omega)]; exact hS.1.2 j hj⟩ hg (by rw [zup_n (by omega)]; exact hc) (by unfold zMk; rw [zup_n (by omega), zup_n (by omega), zup_n (by omega), zup_n (by omega)]; exact hM) Hc
              have H := K1 _ _ e1 e2
              clear e1 e2 Hc K1 K2
              have W := i_iast (q := 100) H I_X8_planGoes_99 LY_78 rfl
              clear H
              obtain ⟨i_99, bi_99, ei_99, H⟩ := W
              replace H := i_aln (q := 101) H I_X8_planGoes_100 rfl rfl
              replace H := i_dup (q := 102) H I_X8_planGoes_101 rfl rfl
              replace H := i_gfi (q := 105) H I_X8_planGoes_102 G_8_179 cn_X8_planGoes LY_71 rfl rfl
              replace H := i_aln (q := 106) H I_X8_planGoes_105 rfl rfl
              replace H := i_gfr (q := 109) H I_X8_planGoes_106 G_8_28 cn_X8_planGoes LY_71 rfl rfl
              replace H := i_iln (q := 110) H I_X8_planGoes_109 rfl rfl
              have W := i_ia (q := 111) H I_X8_planGoes_110 LY_78 rfl
              clear H
              obtain ⟨i_110, bi_110, ei_110, H⟩ := W
              replace H := i_bip (x := (-4)) (q := 113) H I_X8_planGoes_111 (by decide) rfl
              have W := i_ic_ne (t := 120) (q := 116) H I_X8_planGoes_113 (by decide) rfl
              clear H
              rcases W with ⟨c_113, H⟩ | ⟨c_113, H⟩
              · skip
                replace H := i_icst (x := 1) (q := 121) H I_X8_planGoes_120 (by decide) rfl
                replace H := i_iadd (q := 122) H I_X8_planGoes_121 rfl
                replace H := i_pf (q := 125) H I_X8_planGoes_122 G_8_179 cn_X8_planGoes LY_71 rfl rfl
                replace H := i_aln (q := 126) H I_X8_planGoes_125 rfl rfl
                replace H := i_dup (q := 127) H I_X8_planGoes_126 rfl rfl
                replace H := i_gfi (q := 130) H I_X8_planGoes_127 G_8_182 cn_X8_planGoes LY_71 rfl rfl
                replace H := i_aln (q := 131) H I_X8_planGoes_130 rfl rfl
                replace H := i_gfr (q := 134) H I_X8_planGoes_131 G_8_28 cn_X8_planGoes LY_71 rfl rfl
                replace H := i_iln (q := 135) H I_X8_planGoes_134 rfl rfl
                have W := i_ia (q := 136) H I_X8_planGoes_135 LY_78 rfl
                clear H
                obtain ⟨i_135, bi_135, ei_135, H⟩ := W
                replace H := i_bip (x := (-4)) (q := 138) H I_X8_planGoes_136 (by decide) rfl
                have W := i_ic_ne (t := 145) (q := 141) H I_X8_planGoes_138 (by decide) rfl
                clear H
                rcases W with ⟨c_138, H⟩ | ⟨c_138, H⟩
                · skip
                  replace H := i_icst (x := 1) (q := 146) H I_X8_planGoes_145 (by decide) rfl
                  replace H := i_aln (q := 147) H I_X8_planGoes_146 rfl rfl
                  replace H := i_gfr (q := 150) H I_X8_planGoes_147 G_8_28 cn_X8_planGoes LY_71 rfl rfl
                  replace H := i_iln (q := 151) H I_X8_planGoes_150 rfl rfl
                  have W := i_ia (q := 152) H I_X8_planGoes_151 LY_78 rfl
                  clear H
                  obtain ⟨i_151, bi_151, ei_151, H⟩ := W
                  replace H := i_ishl (q := 153) H I_X8_planGoes_152 rfl
                  replace H := i_ior (q := 154) H I_X8_planGoes_153 rfl
                  replace H := i_pf (q := 157) H I_X8_planGoes_154 G_8_182 cn_X8_planGoes LY_71 rfl rfl
                  replace H := i_aln (q := 158) H I_X8_planGoes_157 rfl rfl
                  replace H := i_aln (q := 159) H I_X8_planGoes_158 rfl rfl
                  replace H := i_gfr (q := 162) H I_X8_planGoes_159 G_8_28 cn_X8_planGoes LY_71 rfl rfl
                  replace H := i_iln (q := 163) H I_X8_planGoes_162 rfl rfl
                  have W := i_ia (q := 164) H I_X8_planGoes_163 LY_78 rfl
                  clear H
                  obtain ⟨i_163, bi_163, ei_163, H⟩ := W
                  replace H := i_bip (x := (-4)) (q := 166) H I_X8_planGoes_164 (by decide) rfl
                  have W := i_ic_ne (t := 182) (q := 169) H I_X8_planGoes_166 (by decide) rfl
                  clear H
                  rcases W with ⟨c_166, H⟩ | ⟨c_166, H⟩
                  · skip
                    replace H := i_aln (q := 183) H I_X8_planGoes_182 rfl rfl
                    replace H := i_gfi (q := 186) H I_X8_planGoes_183 G_8_185 cn_X8_planGoes LY_71 rfl rfl
                    replace H := i_pf (q := 189) H I_X8_planGoes_186 G_8_185 cn_X8_planGoes LY_71 rfl rfl
                    replace H := i_inc (q := 192) H I_X8_planGoes_189 rfl rfl rfl
                    replace H := i_goto (q := 18) H I_X8_planGoes_192 (by decide)
                    exfalso
                    exact absurd ((zofn_lt (j := 8) (by omega) (by decide)).mp c_21) (by omega)
                  · skip
                    replace H := i_aln (q := 170) H I_X8_planGoes_169 rfl rfl
                    replace H := i_gfi (q := 173) H I_X8_planGoes_170 G_8_185 cn_X8_planGoes LY_71 rfl rfl
                    replace H := i_bip (x := (-4)) (q := 175) H I_X8_planGoes_173 (by decide) rfl
                    have W := i_ic_ne (t := 182) (q := 178) H I_X8_planGoes_175 (by decide) rfl
                    clear H
                    rcases W with ⟨c_175, H⟩ | ⟨c_175, H⟩
                    · skip
                      replace H := i_aln (q := 183) H I_X8_planGoes_182 rfl rfl
                      replace H := i_gfi (q := 186) H I_X8_planGoes_183 G_8_185 cn_X8_planGoes LY_71 rfl rfl
                      replace H := i_pf (q := 189) H I_X8_planGoes_186 G_8_185 cn_X8_planGoes LY_71 rfl rfl
                      replace H := i_inc (q := 192) H I_X8_planGoes_189 rfl rfl rfl
                      replace H := i_goto (q := 18) H I_X8_planGoes_192 (by decide)
                      exfalso
                      exact absurd ((zofn_lt (j := 8) (by omega) (by decide)).mp c_21) (by omega)
                    · skip
                      replace H := i_iln (q := 179) H I_X8_planGoes_178 rfl rfl
                      replace H := i_goto (q := 186) H I_X8_planGoes_179 (by decide)
                      replace H := i_pf (q := 189) H I_X8_planGoes_186 G_8_185 cn_X8_planGoes LY_71 rfl rfl
                      replace H := i_inc (q := 192) H I_X8_planGoes_189 rfl rfl rfl
                      replace H := i_goto (q := 18) H I_X8_planGoes_192 (by decide)
                      exfalso
                      exact absurd ((zofn_lt (j := 8) (by omega) (by decide)).mp c_21) (by omega)
                · skip
                  replace H := i_icst (x := 0) (q := 142) H I_X8_planGoes_141 (by decide) rfl
                  replace H := i_goto (q := 153) H I_X8_planGoes_142 (by decide)
                  replace H := i_ior (q := 154) H I_X8_planGoes_153 rfl
                  replace H := i_pf (q := 157) H I_X8_planGoes_154 G_8_182 cn_X8_planGoes LY_71 rfl rfl
                  replace H := i_aln (q := 158) H I_X8_planGoes_157 rfl rfl
                  replace H := i_aln (q := 159) H I_X8_planGoes_158 rfl rfl
                  replace H := i_gfr (q := 162) H I_X8_planGoes_159 G_8_28 cn_X8_planGoes LY_71 rfl rfl
                  replace H := i_iln (q := 163) H I_X8_planGoes_162 rfl rfl
                  have W := i_ia (q := 164) H I_X8_planGoes_163 LY_78 rfl
                  clear H
                  obtain ⟨i_163, bi_163, ei_163, H⟩ := W
                  replace H := i_bip (x := (-4)) (q := 166) H I_X8_planGoes_164 (by decide) rfl
                  have W := i_ic_ne (t := 182) (q := 169) H I_X8_planGoes_166 (by decide) rfl
                  clear H
                  rcases W with ⟨c_166, H⟩ | ⟨c_166, H⟩
                  · skip
                    replace H := i_aln (q := 183) H I_X8_planGoes_182 rfl rfl
                    replace H := i_gfi (q := 186) H I_X8_planGoes_183 G_8_185 cn_X8_planGoes LY_71 rfl rfl
                    replace H := i_pf (q := 189) H I_X8_planGoes_186 G_8_185 cn_X8_planGoes LY_71 rfl rfl
                    replace H := i_inc (q := 192) H I_X8_planGoes_189 rfl rfl rfl
                    replace H := i_goto (q := 18) H I_X8_planGoes_192 (by decide)
                    exfalso
                    exact absurd ((zofn_lt (j := 8) (by omega) (by decide)).mp c_21) (by omega)
                  · skip
                    replace H := i_aln (q := 170) H I_X8_planGoes_169 rfl rfl
                    replace H := i_gfi (q := 173) H I_X8_planGoes_170 G_8_185 cn_X8_planGoes LY_71 rfl rfl
                    replace H := i_bip (x := (-4)) (q := 175) H I_X8_planGoes_173 (by decide) rfl
                    have W := i_ic_ne (t := 182) (q := 178) H I_X8_planGoes_175 (by decide) rfl
                    clear H
                    rcases W with ⟨c_175, H⟩ | ⟨c_175, H⟩
                    · skip
                      replace H := i_aln (q := 183) H I_X8_planGoes_182 rfl rfl
                      replace H := i_gfi (q := 186) H I_X8_planGoes_183 G_8_185 cn_X8_planGoes LY_71 rfl rfl
                      replace H := i_pf (q := 189) H I_X8_planGoes_186 G_8_185 cn_X8_planGoes LY_71 rfl rfl
                      replace H := i_inc (q := 192) H I_X8_planGoes_189 rfl rfl rfl
                      replace H := i_goto (q := 18) H I_X8_planGoes_192 (by decide)
                      exfalso
                      exact absurd ((zofn_lt (j := 8) (by omega) (by decide)).mp c_21) (by omega)
                    · skip
                      replace H := i_iln (q := 179) H I_X8_planGoes_178 rfl rfl
                      replace H := i_goto (q := 186) H I_X8_planGoes_179 (by decide)
                      replace H := i_pf (q := 189) H I_X8_planGoes_186 G_8_185 cn_X8_planGoes LY_71 rfl rfl
                      replace H := i_inc (q := 192) H I_X8_planGoes_189 rfl rfl rfl
                      replace H := i_goto (q := 18) H I_X8_planGoes_192 (by decide)
                      exfalso
                      exact absurd ((zofn_lt (j := 8) (by omega) (by decide)).mp c_21) (by omega)
              · skip
                replace H := i_icst (x := 0) (q := 117) H I_X8_planGoes_116 (by decide) rfl
                replace H := i_goto (q := 121) H I_X8_planGoes_117 (by decide)
                replace H := i_iadd (q := 122) H I_X8_planGoes_121 rfl
                replace H := i_pf (q := 125) H I_X8_planGoes_122 G_8_179 cn_X8_planGoes LY_71 rfl rfl
                replace H := i_aln (q := 126) H I_X8_planGoes_125 rfl rfl
                replace H := i_dup (q := 127) H I_X8_planGoes_126 rfl rfl
                replace H := i_gfi (q := 130) H I_X8_planGoes_127 G_8_182 cn_X8_planGoes LY_71 rfl rfl
                replace H := i_aln (q := 131) H I_X8_planGoes_130 rfl rfl
                replace H := i_gfr (q := 134) H I_X8_planGoes_131 G_8_28 cn_X8_planGoes LY_71 rfl rfl
                replace H := i_iln (q := 135) H I_X8_planGoes_134 rfl rfl
                have W := i_ia (q := 136) H I_X8_planGoes_135 LY_78 rfl
                clear H
                obtain ⟨i_135, bi_135, ei_135, H⟩ := W
                replace H := i_bip (x := (-4)) (q := 138) H I_X8_planGoes_136 (by decide) rfl
                have W := i_ic_ne (t := 145) (q := 141) H I_X8_planGoes_138 (by decide) rfl
                clear H
                rcases W with ⟨c_138, H⟩ | ⟨c_138, H⟩
                · skip
                  replace H := i_icst (x := 1) (q := 146) H I_X8_planGoes_145 (by decide) rfl
                  replace H := i_aln (q := 147) H I_X8_planGoes_146 rfl rfl
                  replace H := i_gfr (q := 150) H I_X8_planGoes_147 G_8_28 cn_X8_planGoes LY_71 rfl rfl
                  replace H := i_iln (q := 151) H I_X8_planGoes_150 rfl rfl
                  have W := i_ia (q := 152) H I_X8_planGoes_151 LY_78 rfl
                  clear H
                  obtain ⟨i_151, bi_151, ei_151, H⟩ := W
                  replace H := i_ishl (q := 153) H I_X8_planGoes_152 rfl
                  replace H := i_ior (q := 154) H I_X8_planGoes_153 rfl
                  replace H := i_pf (q := 157) H I_X8_planGoes_154 G_8_182 cn_X8_planGoes LY_71 rfl rfl
                  replace H := i_aln (q := 158) H I_X8_planGoes_157 rfl rfl
                  replace H := i_aln (q := 159) H I_X8_planGoes_158 rfl rfl
                  replace H := i_gfr (q := 162) H I_X8_planGoes_159 G_8_28 cn_X8_planGoes LY_71 rfl rfl
                  replace H := i_iln (q := 163) H I_X8_planGoes_162 rfl rfl
                  have W := i_ia (q := 164) H I_X8_planGoes_163 LY_78 rfl
                  clear H
                  obtain ⟨i_163, bi_163, ei_163, H⟩ := W
                  replace H := i_bip (x := (-4)) (q := 166) H I_X8_planGoes_164 (by decide) rfl
                  have W := i_ic_ne (t := 182) (q := 169) H I_X8_planGoes_166 (by decide) rfl
                  clear H
                  rcases W with ⟨c_166, H⟩ | ⟨c_166, H⟩
                  · skip
                    replace H := i_aln (q := 183) H I_X8_planGoes_182 rfl rfl
                    replace H := i_gfi (q := 186) H I_X8_planGoes_183 G_8_185 cn_X8_planGoes LY_71 rfl rfl
                    replace H := i_pf (q := 189) H I_X8_planGoes_186 G_8_185 cn_X8_planGoes LY_71 rfl rfl
                    replace H := i_inc (q := 192) H I_X8_planGoes_189 rfl rfl rfl
                    replace H := i_goto (q := 18) H I_X8_planGoes_192 (by decide)
                    exfalso
                    exact absurd ((zofn_lt (j := 8) (by omega) (by decide)).mp c_21) (by omega)
                  · skip
                    replace H := i_aln (q := 170) H I_X8_planGoes_169 rfl rfl
                    replace H := i_gfi (q := 173) H I_X8_planGoes_170 G_8_185 cn_X8_planGoes LY_71 rfl rfl
                    replace H := i_bip (x := (-4)) (q := 175) H I_X8_planGoes_173 (by decide) rfl
                    have W := i_ic_ne (t := 182) (q := 178) H I_X8_planGoes_175 (by decide) rfl
                    clear H
                    rcases W with ⟨c_175, H⟩ | ⟨c_175, H⟩
                    · skip
                      replace H := i_aln (q := 183) H I_X8_planGoes_182 rfl rfl
                      replace H := i_gfi (q := 186) H I_X8_planGoes_183 G_8_185 cn_X8_planGoes LY_71 rfl rfl
                      replace H := i_pf (q := 189) H I_X8_planGoes_186 G_8_185 cn_X8_planGoes LY_71 rfl rfl
                      replace H := i_inc (q := 192) H I_X8_planGoes_189 rfl rfl rfl
                      replace H := i_goto (q := 18) H I_X8_planGoes_192 (by decide)
                      exfalso
                      exact absurd ((zofn_lt (j := 8) (by omega) (by decide)).mp c_21) (by omega)
                    · skip
                      replace H := i_iln (q := 179) H I_X8_planGoes_178 rfl rfl
                      replace H := i_goto (q := 186) H I_X8_planGoes_179 (by decide)
                      replace H := i_pf (q := 189) H I_X8_planGoes_186 G_8_185 cn_X8_planGoes LY_71 rfl rfl
                      replace H := i_inc (q := 192) H I_X8_planGoes_189 rfl rfl rfl
                      replace H := i_goto (q := 18) H I_X8_planGoes_192 (by decide)
                      exfalso
                      exact absurd ((zofn_lt (j := 8) (by omega) (by decide)).mp c_21) (by omega)
                · skip
                  replace H := i_icst (x := 0) (q := 142) H I_X8_planGoes_141 (by decide) rfl
                  replace H := i_goto (q := 153) H I_X8_planGoes_142 (by decide)
                  replace H := i_ior (q := 154) H I_X8_planGoes_153 rfl
                  replace H := i_pf (q := 157) H I_X8_planGoes_154 G_8_182 cn_X8_planGoes LY_71 rfl rfl
                  replace H := i_aln (q := 158) H I_X8_planGoes_157 rfl rfl
                  replace H := i_aln (q := 159) H I_X8_planGoes_158 rfl rfl
                  replace H := i_gfr (q := 162) H I_X8_planGoes_159 G_8_28 cn_X8_planGoes LY_71 rfl rfl
                  replace H := i_iln (q := 163) H I_X8_planGoes_162 rfl rfl
                  have W := i_ia (q := 164) H I_X8_planGoes_163 LY_78 rfl
                  clear H
                  obtain ⟨i_163, bi_163, ei_163, H⟩ := W
                  replace H := i_bip (x := (-4)) (q := 166) H I_X8_planGoes_164 (by decide) rfl
                  have W := i_ic_ne (t := 182) (q := 169) H I_X8_planGoes_166 (by decide) rfl
                  clear H
                  rcases W with ⟨c_166, H⟩ | ⟨c_166, H⟩
                  · skip
                    replace H := i_aln (q := 183) H I_X8_planGoes_182 rfl rfl
                    replace H := i_gfi (q := 186) H I_X8_planGoes_183 G_8_185 cn_X8_planGoes LY_71 rfl rfl
                    replace H := i_pf (q := 189) H I_X8_planGoes_186 G_8_185 cn_X8_planGoes LY_71 rfl rfl
                    replace H := i_inc (q := 192) H I_X8_planGoes_189 rfl rfl rfl
                    replace H := i_goto (q := 18) H I_X8_planGoes_192 (by decide)
                    exfalso
                    exact absurd ((zofn_lt (j := 8) (by omega) (by decide)).mp c_21) (by omega)
                  · skip
                    replace H := i_aln (q := 170) H I_X8_planGoes_169 rfl rfl
                    replace H := i_gfi (q := 173) H I_X8_planGoes_170 G_8_185 cn_X8_planGoes LY_71 rfl rfl
                    replace H := i_bip (x := (-4)) (q := 175) H I_X8_planGoes_173 (by decide) rfl
                    have W := i_ic_ne (t := 182) (q := 178) H I_X8_planGoes_175 (by decide) rfl
                    clear H
                    rcases W with ⟨c_175, H⟩ | ⟨c_175, H⟩
                    · skip
                      replace H := i_aln (q := 183) H I_X8_planGoes_182 rfl rfl
                      replace H := i_gfi (q := 186) H I_X8_planGoes_183 G_8_185 cn_X8_planGoes LY_71 rfl rfl
                      replace H := i_pf (q := 189) H I_X8_planGoes_186 G_8_185 cn_X8_planGoes LY_71 rfl rfl
                      replace H := i_inc (q := 192) H I_X8_planGoes_189 rfl rfl rfl
                      replace H := i_goto (q := 18) H I_X8_planGoes_192 (by decide)
                      exfalso
                      exact absurd ((zofn_lt (j := 8) (by omega) (by decide)).mp c_21) (by omega)
                    · skip
                      replace H := i_iln (q := 179) H I_X8_planGoes_178 rfl rfl
                      replace H := i_goto (q := 186) H I_X8_planGoes_179 (by decide)
                      replace H := i_pf (q := 189) H I_X8_planGoes_186 G_8_185 cn_X8_planGoes LY_71 rfl rfl
                      replace H := i_inc (q := 192) H I_X8_planGoes_189 rfl rfl rfl
                      replace H := i_goto (q := 18) H I_X8_planGoes_192 (by decide)
                      exfalso
                      exact absurd ((zofn_lt (j := 8) (by omega) (by decide)).mp c_21) (by omega)
        · skip
          replace H := i_aln (q := 63) H I_X8_planGoes_62 rfl rfl
          replace H := i_bip (x := 108) (q := 65) H I_X8_planGoes_63 (by decide) rfl
          have W := i_cv1 1 (q := 68) H I_X8_planGoes_65 K_8_176 Zm_143 rfl rfl
          clear H
          obtain ⟨r1, h1, Hc, K1, K2⟩ := W
          obtain ⟨M_65, e1, e2, F_65⟩ := t_X8_restsOn (pg := 108) (g := P.1) ⟨hS.1.1, fun j hj => by rw [zup_n (by omega)]; exact hS.1.2 j hj⟩ Hc
          have H := K2 _ e1 e2
          clear e1 e2 Hc K1 K2
          replace H := i_goto (q := 189) H I_X8_planGoes_68 (by decide)
          replace H := i_inc (q := 192) H I_X8_planGoes_189 rfl rfl rfl
          replace H := i_goto (q := 18) H I_X8_planGoes_192 (by decide)
          exfalso
          exact absurd ((zofn_lt (j := 8) (by omega) (by decide)).mp c_21) (by omega)
  | succ j ih =>
    intro i P d r h' m hj hS hg h26 hpl hen hc hM H
    replace H := i_iln (q := 19) H I_X8_planGoes_18 rfl rfl
    replace H := i_bip (x := 8) (q := 21) H I_X8_planGoes_19 (by decide) rfl
    have W := i_ic_ge (t := 195) (q := 24) H I_X8_planGoes_21 (by decide) rfl
    clear H
    rcases W with ⟨c_21, H⟩ | ⟨c_21, H⟩
    · skip
      obtain ⟨hr, hh⟩ := i_rt H I_X8_planGoes_195
      exfalso
      exact c_21 ((zofn_lt (j := 8) (by omega) (by decide)).mpr (by omega))
    · skip
      replace H := i_iln (q := 25) H I_X8_planGoes_24 rfl rfl
      replace H := i_aln (q := 26) H I_X8_planGoes_25 rfl rfl
      replace H := i_gfr (q := 29) H I_X8_planGoes_26 G_8_7 cn_X8_planGoes LY_71 rfl rfl
      replace H := i_sip (x := 134) (q := 32) H I_X8_planGoes_29 (by decide) rfl
      have W := i_ia (q := 33) H I_X8_planGoes_32 LY_72 rfl
      clear H
      obtain ⟨i_32, bi_32, ei_32, H⟩ := W
      have W := i_ic_ge (t := 48) (q := 36) H I_X8_planGoes_33 (by decide) rfl
      clear H
      rcases W with ⟨c_33, H⟩ | ⟨c_33, H⟩
      · skip
        replace H := i_icst (x := (-1)) (q := 49) H I_X8_planGoes_48 (by decide) rfl
        replace H := i_isn (q := 50) H I_X8_planGoes_49 rfl rfl
        replace H := i_aln (q := 51) H I_X8_planGoes_50 rfl rfl
        replace H := i_gfr (q := 54) H I_X8_planGoes_51 G_8_28 cn_X8_planGoes LY_71 rfl rfl
        replace H := i_iln (q := 55) H I_X8_planGoes_54 rfl rfl
        replace H := i_bip (x := (-4)) (q := 57) H I_X8_planGoes_55 (by decide) rfl
        have W := i_iast (q := 58) H I_X8_planGoes_57 LY_78 rfl
        clear H
        obtain ⟨i_57, bi_57, ei_57, H⟩ := W
        replace H := i_iln (q := 59) H I_X8_planGoes_58 rfl rfl
        have W := i_if_ne (t := 71) (q := 62) H I_X8_planGoes_59 (by decide) rfl
        clear H
        rcases W with ⟨c_59, H⟩ | ⟨c_59, H⟩
        · skip
          replace H := i_iln (q := 72) H I_X8_planGoes_71 rfl rfl
          have W := i_if_le (t := 189) (q := 75) H I_X8_planGoes_72 (by decide) rfl
          clear H
          rcases W with ⟨c_72, H⟩ | ⟨c_72, H⟩
          · skip
            replace H := i_inc (q := 192) H I_X8_planGoes_189 rfl rfl rfl
            replace H := i_goto (q := 18) H I_X8_planGoes_192 (by decide)
            have j1 : i_32 = 134 := (zofn (i := 134) ei_32 (by decide) (by omega)).symm
            subst j1
            rw [show m 72 134 = Int32.ofNat a from (hS.1.2 26 (by omega)).trans h26] at c_33
            have j2 : i = i_57 := zofn ei_57 (by omega) (by omega)
            subst j2
            replace H := i_w [true, true, true, false] H
            rw [zofn_s] at H
            have ok := pAct_ok (i := i) (mk := aw ^^^ -1) hg
            have hge : ¬ i < a := fun q => c_33 ((zofn_lt (by omega) (by omega)).mpr q)
            rw [show a - i = a - (i + 1) by omega]
            have hS1 : rP (zup m 78 i (-4)) (i + 1) P := by
              refine ⟨⟨hS.1.1, fun j hj => by rw [zup_n (by omega)]; exact hS.1.2 j hj⟩, by rw [zup_n (by omega)]; exact hS.2.1, by rw [zup_n (by omega)]; exact hS.2.2.1, by rw [zup_n (by omega)]; exact hS.2.2.2.1, fun j hj => ?_⟩
              by_cases e : j = i
              · subst e
                rw [zup_s, hen j (Nat.le_refl j)]
              · rw [zup_n (by omega)]; exact hS.2.2.2.2 j (by omega)
            obtain ⟨m1, x1, x2, x3, x4⟩ := ih (i + 1) P d r h' _ (by omega) hS1 hg h26 hpl (fun k hk => hen k (by omega)) (by rw [zup_n (by omega)]; exact hc) (by unfold zMk; rw [zup_n (by omega), zup_n (by omega), zup_n (by omega), zup_n (by omega)]; exact hM) H
            rw [show a - (i + 1) = 0 by omega] at x3 ⊢
            exact ⟨m1, x1, x2, x3, zfP_t (fun x y h1 h2 h3 => by rw [zup_n (by omega)]) x4⟩
          · skip
            replace H := i_iln (q := 76) H I_X8_planGoes_75 rfl rfl
            replace H := i_iln (q := 77) H I_X8_planGoes_76 rfl rfl
            replace H := i_icst (x := (-1)) (q := 78) H I_X8_planGoes_77 (by decide) rfl
            replace H := i_ixor (q := 79) H I_X8_planGoes_78 rfl
            replace H := i_iand (q := 80) H I_X8_planGoes_79 rfl
            have W := i_if_eq (t := 189) (q := 83) H I_X8_planGoes_80 (by decide) rfl
            clear H
            rcases W with ⟨c_80, H⟩ | ⟨c_80, H⟩
            · skip
              replace H := i_inc (q := 192) H I_X8_planGoes_189 rfl rfl rfl
              replace H := i_goto (q := 18) H I_X8_planGoes_192 (by decide)
              exact absurd c_72 (by decide)
            · skip
              replace H := i_aln (q := 84) H I_X8_planGoes_83 rfl rfl
              replace H := i_gfr (q := 87) H I_X8_planGoes_84 G_8_28 cn_X8_planGoes LY_71 rfl rfl
              replace H := i_iln (q := 88) H I_X8_planGoes_87 rfl rfl
              replace H := i_aln (q := 89) H I_X8_planGoes_88 rfl rfl
              replace H := i_bip (x := 108) (q := 91) H I_X8_planGoes_89 (by decide) rfl
              replace H := i_iln (q := 92) H I_X8_planGoes_91 rfl rfl
              replace H := i_iln (q := 93) H I_X8_planGoes_92 rfl rfl
              replace H := i_icst (x := (-1)) (q := 94) H I_X8_planGoes_93 (by decide) rfl
              replace H := i_ixor (q := 95) H I_X8_planGoes_94 rfl
              replace H := i_iand (q := 96) H I_X8_planGoes_95 rfl
              have W := i_cv2 3 (q := 99) H I_X8_planGoes_96 K_8_170 Zm_142 rfl rfl
              clear H
              obtain ⟨r1, h1, Hc, K1, K2⟩ := W
              obtain ⟨M_96, e1, e2, F_96⟩ := t_X8_triesOn (pg := 108) (g := P.1) (c := c) ⟨hS.1.1, fun j hj => by rw [zup_n (by omega)]; exact hS.1.2 j hj⟩ hg (by rw [zup_n (by omega)]; exact hc) (by unfold zMk; rw [zup_n (by omega), zup_n (by omega), zup_n (by omega), zup_n (by omega)]; exact hM) Hc
              have H := K1 _ _ e1 e2
              clear e1 e2 Hc K1 K2
              have W := i_iast (q := 100) H I_X8_planGoes_99 LY_78 rfl
              clear H
              obtain ⟨i_99, bi_99, ei_99, H⟩ := W
              replace H := i_aln (q := 101) H I_X8_planGoes_100 rfl rfl
              replace H := i_dup (q := 102) H I_X8_planGoes_101 rfl rfl
              replace H := i_gfi (q := 105) H I_X8_planGoes_102 G_8_179 cn_X8_planGoes LY_71 rfl rfl
              replace H := i_aln (q := 106) H I_X8_planGoes_105 rfl rfl
              replace H := i_gfr (q := 109) H I_X8_planGoes_106 G_8_28 cn_X8_planGoes LY_71 rfl rfl
              replace H := i_iln (q := 110) H I_X8_planGoes_109 rfl rfl
              have W := i_ia (q := 111) H I_X8_planGoes_110 LY_78 rfl
              clear H
              obtain ⟨i_110, bi_110, ei_110, H⟩ := W
              replace H := i_bip (x := (-4)) (q := 113) H I_X8_planGoes_111 (by decide) rfl
              have W := i_ic_ne (t := 120) (q := 116) H I_X8_planGoes_113 (by decide) rfl
              clear H
              rcases W with ⟨c_113, H⟩ | ⟨c_113, H⟩
              · skip
                replace H := i_icst (x := 1) (q := 121) H I_X8_planGoes_120 (by decide) rfl
                replace H := i_iadd (q := 122) H I_X8_planGoes_121 rfl
                replace H := i_pf (q := 125) H I_X8_planGoes_122 G_8_179 cn_X8_planGoes LY_71 rfl rfl
                replace H := i_aln (q := 126) H I_X8_planGoes_125 rfl rfl
                replace H := i_dup (q := 127) H I_X8_planGoes_126 rfl rfl
                replace H := i_gfi (q := 130) H I_X8_planGoes_127 G_8_182 cn_X8_planGoes LY_71 rfl rfl
                replace H := i_aln (q := 131) H I_X8_planGoes_130 rfl rfl
                replace H := i_gfr (q := 134) H I_X8_planGoes_131 G_8_28 cn_X8_planGoes LY_71 rfl rfl
                replace H := i_iln (q := 135) H I_X8_planGoes_134 rfl rfl
                have W := i_ia (q := 136) H I_X8_planGoes_135 LY_78 rfl
                clear H
                obtain ⟨i_135, bi_135, ei_135, H⟩ := W
                replace H := i_bip (x := (-4)) (q := 138) H I_X8_planGoes_136 (by decide) rfl
                have W := i_ic_ne (t := 145) (q := 141) H I_X8_planGoes_138 (by decide) rfl
                clear H
                rcases W with ⟨c_138, H⟩ | ⟨c_138, H⟩
                · skip
                  replace H := i_icst (x := 1) (q := 146) H I_X8_planGoes_145 (by decide) rfl
                  replace H := i_aln (q := 147) H I_X8_planGoes_146 rfl rfl
                  replace H := i_gfr (q := 150) H I_X8_planGoes_147 G_8_28 cn_X8_planGoes LY_71 rfl rfl
                  replace H := i_iln (q := 151) H I_X8_planGoes_150 rfl rfl
                  have W := i_ia (q := 152) H I_X8_planGoes_151 LY_78 rfl
                  clear H
                  obtain ⟨i_151, bi_151, ei_151, H⟩ := W
                  replace H := i_ishl (q := 153) H I_X8_planGoes_152 rfl
                  replace H := i_ior (q := 154) H I_X8_planGoes_153 rfl
                  replace H := i_pf (q := 157) H I_X8_planGoes_154 G_8_182 cn_X8_planGoes LY_71 rfl rfl
                  replace H := i_aln (q := 158) H I_X8_planGoes_157 rfl rfl
                  replace H := i_aln (q := 159) H I_X8_planGoes_158 rfl rfl
                  replace H := i_gfr (q := 162) H I_X8_planGoes_159 G_8_28 cn_X8_planGoes LY_71 rfl rfl
                  replace H := i_iln (q := 163) H I_X8_planGoes_162 rfl rfl
                  have W := i_ia (q := 164) H I_X8_planGoes_163 LY_78 rfl
                  clear H
                  obtain ⟨i_163, bi_163, ei_163, H⟩ := W
                  replace H := i_bip (x := (-4)) (q := 166) H I_X8_planGoes_164 (by decide) rfl
                  have W := i_ic_ne (t := 182) (q := 169) H I_X8_planGoes_166 (by decide) rfl
                  clear H
                  rcases W with ⟨c_166, H⟩ | ⟨c_166, H⟩
                  · skip
                    replace H := i_aln (q := 183) H I_X8_planGoes_182 rfl rfl
                    replace H := i_gfi (q := 186) H I_X8_planGoes_183 G_8_185 cn_X8_planGoes LY_71 rfl rfl
                    replace H := i_pf (q := 189) H I_X8_planGoes_186 G_8_185 cn_X8_planGoes LY_71 rfl rfl
                    replace H := i_inc (q := 192) H I_X8_planGoes_189 rfl rfl rfl
                    replace H := i_goto (q := 18) H I_X8_planGoes_192 (by decide)
                    exact absurd c_72 (by decide)
                  · skip
                    replace H := i_aln (q := 170) H I_X8_planGoes_169 rfl rfl
                    replace H := i_gfi (q := 173) H I_X8_planGoes_170 G_8_185 cn_X8_planGoes LY_71 rfl rfl
                    replace H := i_bip (x := (-4)) (q := 175) H I_X8_planGoes_173 (by decide) rfl
                    have W := i_ic_ne (t := 182) (q := 178) H I_X8_planGoes_175 (by decide) rfl
                    clear H
                    rcases W with ⟨c_175, H⟩ | ⟨c_175, H⟩
                    · skip
                      replace H := i_aln (q := 183) H I_X8_planGoes_182 rfl rfl
                      replace H := i_gfi (q := 186) H I_X8_planGoes_183 G_8_185 cn_X8_planGoes LY_71 rfl rfl
                      replace H := i_pf (q := 189) H I_X8_planGoes_186 G_8_185 cn_X8_planGoes LY_71 rfl rfl
                      replace H := i_inc (q := 192) H I_X8_planGoes_189 rfl rfl rfl
                      replace H := i_goto (q := 18) H I_X8_planGoes_192 (by decide)
                      exact absurd c_72 (by decide)
                    · skip
                      replace H := i_iln (q := 179) H I_X8_planGoes_178 rfl rfl
                      replace H := i_goto (q := 186) H I_X8_planGoes_179 (by decide)
                      replace H := i_pf (q := 189) H I_X8_planGoes_186 G_8_185 cn_X8_planGoes LY_71 rfl rfl
                      replace H := i_inc (q := 192) H I_X8_planGoes_189 rfl rfl rfl
                      replace H := i_goto (q := 18) H I_X8_planGoes_192 (by decide)
                      exact absurd c_72 (by decide)
                · skip
                  replace H := i_icst (x := 0) (q := 142) H I_X8_planGoes_141 (by decide) rfl
                  replace H := i_goto (q := 153) H I_X8_planGoes_142 (by decide)
                  replace H := i_ior (q := 154) H I_X8_planGoes_153 rfl
                  replace H := i_pf (q := 157) H I_X8_planGoes_154 G_8_182 cn_X8_planGoes LY_71 rfl rfl
                  replace H := i_aln (q := 158) H I_X8_planGoes_157 rfl rfl
                  replace H := i_aln (q := 159) H I_X8_planGoes_158 rfl rfl
                  replace H := i_gfr (q := 162) H I_X8_planGoes_159 G_8_28 cn_X8_planGoes LY_71 rfl rfl
                  replace H := i_iln (q := 163) H I_X8_planGoes_162 rfl rfl
                  have W := i_ia (q := 164) H I_X8_planGoes_163 LY_78 rfl
                  clear H
                  obtain ⟨i_163, bi_163, ei_163, H⟩ := W
                  replace H := i_bip (x := (-4)) (q := 166) H I_X8_planGoes_164 (by decide) rfl
                  have W := i_ic_ne (t := 182) (q := 169) H I_X8_planGoes_166 (by decide) rfl
                  clear H
                  rcases W with ⟨c_166, H⟩ | ⟨c_166, H⟩
                  · skip
                    replace H := i_aln (q := 183) H I_X8_planGoes_182 rfl rfl
                    replace H := i_gfi (q := 186) H I_X8_planGoes_183 G_8_185 cn_X8_planGoes LY_71 rfl rfl
                    replace H := i_pf (q := 189) H I_X8_planGoes_186 G_8_185 cn_X8_planGoes LY_71 rfl rfl
                    replace H := i_inc (q := 192) H I_X8_planGoes_189 rfl rfl rfl
                    replace H := i_goto (q := 18) H I_X8_planGoes_192 (by decide)
                    exact absurd c_72 (by decide)
                  · skip
                    replace H := i_aln (q := 170) H I_X8_planGoes_169 rfl rfl
                    replace H := i_gfi (q := 173) H I_X8_planGoes_170 G_8_185 cn_X8_planGoes LY_71 rfl rfl
                    replace H := i_bip (x := (-4)) (q := 175) H I_X8_planGoes_173 (by decide) rfl
                    have W := i_ic_ne (t := 182) (q := 178) H I_X8_planGoes_175 (by decide) rfl
                    clear H
                    rcases W with ⟨c_175, H⟩ | ⟨c_175, H⟩
                    · skip
                      replace H := i_aln (q := 183) H I_X8_planGoes_182 rfl rfl
                      replace H := i_gfi (q := 186) H I_X8_planGoes_183 G_8_185 cn_X8_planGoes LY_71 rfl rfl
                      replace H := i_pf (q := 189) H I_X8_planGoes_186 G_8_185 cn_X8_planGoes LY_71 rfl rfl
                      replace H := i_inc (q := 192) H I_X8_planGoes_189 rfl rfl rfl
                      replace H := i_goto (q := 18) H I_X8_planGoes_192 (by decide)
                      exact absurd c_72 (by decide)
                    · skip
                      replace H := i_iln (q := 179) H I_X8_planGoes_178 rfl rfl
                      replace H := i_goto (q := 186) H I_X8_planGoes_179 (by decide)
                      replace H := i_pf (q := 189) H I_X8_planGoes_186 G_8_185 cn_X8_planGoes LY_71 rfl rfl
                      replace H := i_inc (q := 192) H I_X8_planGoes_189 rfl rfl rfl
                      replace H := i_goto (q := 18) H I_X8_planGoes_192 (by decide)
                      exact absurd c_72 (by decide)
              · skip
                replace H := i_icst (x := 0) (q := 117) H I_X8_planGoes_116 (by decide) rfl
                replace H := i_goto (q := 121) H I_X8_planGoes_117 (by decide)
                replace H := i_iadd (q := 122) H I_X8_planGoes_121 rfl
                replace H := i_pf (q := 125) H I_X8_planGoes_122 G_8_179 cn_X8_planGoes LY_71 rfl rfl
                replace H := i_aln (q := 126) H I_X8_planGoes_125 rfl rfl
                replace H := i_dup (q := 127) H I_X8_planGoes_126 rfl rfl
                replace H := i_gfi (q := 130) H I_X8_planGoes_127 G_8_182 cn_X8_planGoes LY_71 rfl rfl
                replace H := i_aln (q := 131) H I_X8_planGoes_130 rfl rfl
                replace H := i_gfr (q := 134) H I_X8_planGoes_131 G_8_28 cn_X8_planGoes LY_71 rfl rfl
                replace H := i_iln (q := 135) H I_X8_planGoes_134 rfl rfl
                have W := i_ia (q := 136) H I_X8_planGoes_135 LY_78 rfl
                clear H
                obtain ⟨i_135, bi_135, ei_135, H⟩ := W
                replace H := i_bip (x := (-4)) (q := 138) H I_X8_planGoes_136 (by decide) rfl
                have W := i_ic_ne (t := 145) (q := 141) H I_X8_planGoes_138 (by decide) rfl
                clear H
                rcases W with ⟨c_138, H⟩ | ⟨c_138, H⟩
                · skip
                  replace H := i_icst (x := 1) (q := 146) H I_X8_planGoes_145 (by decide) rfl
                  replace H := i_aln (q := 147) H I_X8_planGoes_146 rfl rfl
                  replace H := i_gfr (q := 150) H I_X8_planGoes_147 G_8_28 cn_X8_planGoes LY_71 rfl rfl
                  replace H := i_iln (q := 151) H I_X8_planGoes_150 rfl rfl
                  have W := i_ia (q := 152) H I_X8_planGoes_151 LY_78 rfl
                  clear H
                  obtain ⟨i_151, bi_151, ei_151, H⟩ := W
                  replace H := i_ishl (q := 153) H I_X8_planGoes_152 rfl
                  replace H := i_ior (q := 154) H I_X8_planGoes_153 rfl
                  replace H := i_pf (q := 157) H I_X8_planGoes_154 G_8_182 cn_X8_planGoes LY_71 rfl rfl
                  replace H := i_aln (q := 158) H I_X8_planGoes_157 rfl rfl
                  replace H := i_aln (q := 159) H I_X8_planGoes_158 rfl rfl
                  replace H := i_gfr (q := 162) H I_X8_planGoes_159 G_8_28 cn_X8_planGoes LY_71 rfl rfl
                  replace H := i_iln (q := 163) H I_X8_planGoes_162 rfl rfl
                  have W := i_ia (q := 164) H I_X8_planGoes_163 LY_78 rfl
                  clear H
                  obtain ⟨i_163, bi_163, ei_163, H⟩ := W
                  replace H := i_bip (x := (-4)) (q := 166) H I_X8_planGoes_164 (by decide) rfl
                  have W := i_ic_ne (t := 182) (q := 169) H I_X8_planGoes_166 (by decide) rfl
                  clear H
                  rcases W with ⟨c_166, H⟩ | ⟨c_166, H⟩
                  · skip
                    replace H := i_aln (q := 183) H I_X8_planGoes_182 rfl rfl
                    replace H := i_gfi (q := 186) H I_X8_planGoes_183 G_8_185 cn_X8_planGoes LY_71 rfl rfl
                    replace H := i_pf (q := 189) H I_X8_planGoes_186 G_8_185 cn_X8_planGoes LY_71 rfl rfl
                    replace H := i_inc (q := 192) H I_X8_planGoes_189 rfl rfl rfl
                    replace H := i_goto (q := 18) H I_X8_planGoes_192 (by decide)
                    exact absurd c_72 (by decide)
                  · skip
                    replace H := i_aln (q := 170) H I_X8_planGoes_169 rfl rfl
                    replace H := i_gfi (q := 173) H I_X8_planGoes_170 G_8_185 cn_X8_planGoes LY_71 rfl rfl
                    replace H := i_bip (x := (-4)) (q := 175) H I_X8_planGoes_173 (by decide) rfl
                    have W := i_ic_ne (t := 182) (q := 178) H I_X8_planGoes_175 (by decide) rfl
                    clear H
                    rcases W with ⟨c_175, H⟩ | ⟨c_175, H⟩
                    · skip
                      replace H := i_aln (q := 183) H I_X8_planGoes_182 rfl rfl
                      replace H := i_gfi (q := 186) H I_X8_planGoes_183 G_8_185 cn_X8_planGoes LY_71 rfl rfl
                      replace H := i_pf (q := 189) H I_X8_planGoes_186 G_8_185 cn_X8_planGoes LY_71 rfl rfl
                      replace H := i_inc (q := 192) H I_X8_planGoes_189 rfl rfl rfl
                      replace H := i_goto (q := 18) H I_X8_planGoes_192 (by decide)
                      exact absurd c_72 (by decide)
                    · skip
                      replace H := i_iln (q := 179) H I_X8_planGoes_178 rfl rfl
                      replace H := i_goto (q := 186) H I_X8_planGoes_179 (by decide)
                      replace H := i_pf (q := 189) H I_X8_planGoes_186 G_8_185 cn_X8_planGoes LY_71 rfl rfl
                      replace H := i_inc (q := 192) H I_X8_planGoes_189 rfl rfl rfl
                      replace H := i_goto (q := 18) H I_X8_planGoes_192 (by decide)
                      exact absurd c_72 (by decide)
                · skip
                  replace H := i_icst (x := 0) (q := 142) H I_X8_planGoes_141 (by decide) rfl
                  replace H := i_goto (q := 153) H I_X8_planGoes_142 (by decide)
                  replace H := i_ior (q := 154) H I_X8_planGoes_153 rfl
                  replace H := i_pf (q := 157) H I_X8_planGoes_154 G_8_182 cn_X8_planGoes LY_71 rfl rfl
                  replace H := i_aln (q := 158) H I_X8_planGoes_157 rfl rfl
                  replace H := i_aln (q := 159) H I_X8_planGoes_158 rfl rfl
                  replace H := i_gfr (q := 162) H I_X8_planGoes_159 G_8_28 cn_X8_planGoes LY_71 rfl rfl
                  replace H := i_iln (q := 163) H I_X8_planGoes_162 rfl rfl
                  have W := i_ia (q := 164) H I_X8_planGoes_163 LY_78 rfl
                  clear H
                  obtain ⟨i_163, bi_163, ei_163, H⟩ := W
                  replace H := i_bip (x := (-4)) (q := 166) H I_X8_planGoes_164 (by decide) rfl
                  have W := i_ic_ne (t := 182) (q := 169) H I_X8_planGoes_166 (by decide) rfl
                  clear H
                  rcases W with ⟨c_166, H⟩ | ⟨c_166, H⟩
                  · skip
                    replace H := i_aln (q := 183) H I_X8_planGoes_182 rfl rfl
                    replace H := i_gfi (q := 186) H I_X8_planGoes_183 G_8_185 cn_X8_planGoes LY_71 rfl rfl
                    replace H := i_pf (q := 189) H I_X8_planGoes_186 G_8_185 cn_X8_planGoes LY_71 rfl rfl
                    replace H := i_inc (q := 192) H I_X8_planGoes_189 rfl rfl rfl
                    replace H := i_goto (q := 18) H I_X8_planGoes_192 (by decide)
                    exact absurd c_72 (by decide)
                  · skip
                    replace H := i_aln (q := 170) H I_X8_planGoes_169 rfl rfl
                    replace H := i_gfi (q := 173) H I_X8_planGoes_170 G_8_185 cn_X8_planGoes LY_71 rfl rfl
                    replace H := i_bip (x := (-4)) (q := 175) H I_X8_planGoes_173 (by decide) rfl
                    have W := i_ic_ne (t := 182) (q := 178) H I_X8_planGoes_175 (by decide) rfl
                    clear H
                    rcases W with ⟨c_175, H⟩ | ⟨c_175, H⟩
                    · skip
                      replace H := i_aln (q := 183) H I_X8_planGoes_182 rfl rfl
                      replace H := i_gfi (q := 186) H I_X8_planGoes_183 G_8_185 cn_X8_planGoes LY_71 rfl rfl
                      replace H := i_pf (q := 189) H I_X8_planGoes_186 G_8_185 cn_X8_planGoes LY_71 rfl rfl
                      replace H := i_inc (q := 192) H I_X8_planGoes_189 rfl rfl rfl
                      replace H := i_goto (q := 18) H I_X8_planGoes_192 (by decide)
                      exact absurd c_72 (by decide)
                    · skip
                      replace H := i_iln (q := 179) H I_X8_planGoes_178 rfl rfl
                      replace H := i_goto (q := 186) H I_X8_planGoes_179 (by decide)
                      replace H := i_pf (q := 189) H I_X8_planGoes_186 G_8_185 cn_X8_planGoes LY_71 rfl rfl
                      replace H := i_inc (q := 192) H I_X8_planGoes_189 rfl rfl rfl
                      replace H := i_goto (q := 18) H I_X8_planGoes_192 (by decide)
                      exact absurd c_72 (by decide)
        · skip
          replace H := i_aln (q := 63) H I_X8_planGoes_62 rfl rfl
          replace H := i_bip (x := 108) (q := 65) H I_X8_planGoes_63 (by decide) rfl
          have W := i_cv1 1 (q := 68) H I_X8_planGoes_65 K_8_176 Zm_143 rfl rfl
          clear H
          obtain ⟨r1, h1, Hc, K1, K2⟩ := W
          obtain ⟨M_65, e1, e2, F_65⟩ := t_X8_restsOn (pg := 108) (g := P.1) ⟨hS.1.1, fun j hj => by rw [zup_n (by omega)]; exact hS.1.2 j hj⟩ Hc
          have H := K2 _ e1 e2
          clear e1 e2 Hc K1 K2
          replace H := i_goto (q := 189) H I_X8_planGoes_68 (by decide)
          replace H := i_inc (q := 192) H I_X8_planGoes_189 rfl rfl rfl
          replace H := i_goto (q := 18) H I_X8_planGoes_192 (by decide)
          exact absurd c_59 (by decide)
      · skip
        replace H := i_aln (q := 37) H I_X8_planGoes_36 rfl rfl
        replace H := i_gfr (q := 40) H I_X8_planGoes_37 G_8_7 cn_X8_planGoes LY_71 rfl rfl
        replace H := i_bip (x := 126) (q := 42) H I_X8_planGoes_40 (by decide) rfl
        replace H := i_iln (q := 43) H I_X8_planGoes_42 rfl rfl
        replace H := i_iadd (q := 44) H I_X8_planGoes_43 rfl
        have W := i_ia (q := 45) H I_X8_planGoes_44 LY_72 rfl
        clear H
        obtain ⟨i_44, bi_44, ei_44, H⟩ := W
        replace H := i_goto (q := 49) H I_X8_planGoes_45 (by decide)
        replace H := i_isn (q := 50) H I_X8_planGoes_49 rfl rfl
        replace H := i_aln (q := 51) H I_X8_planGoes_50 rfl rfl
        replace H := i_gfr (q := 54) H I_X8_planGoes_51 G_8_28 cn_X8_planGoes LY_71 rfl rfl
        replace H := i_iln (q := 55) H I_X8_planGoes_54 rfl rfl
        replace H := i_bip (x := (-4)) (q := 57) H I_X8_planGoes_55 (by decide) rfl
        have W := i_iast (q := 58) H I_X8_planGoes_57 LY_78 rfl
        clear H
        obtain ⟨i_57, bi_57, ei_57, H⟩ := W
        replace H := i_iln (q := 59) H I_X8_planGoes_58 rfl rfl
        have W := i_if_ne (t := 71) (q := 62) H I_X8_planGoes_59 (by decide) rfl
        clear H
        rcases W with ⟨c_59, H⟩ | ⟨c_59, H⟩
        · skip
          replace H := i_iln (q := 72) H I_X8_planGoes_71 rfl rfl
          have W := i_if_le (t := 189) (q := 75) H I_X8_planGoes_72 (by decide) rfl
          clear H
          rcases W with ⟨c_72, H⟩ | ⟨c_72, H⟩
          · skip
            replace H := i_inc (q := 192) H I_X8_planGoes_189 rfl rfl rfl
            replace H := i_goto (q := 18) H I_X8_planGoes_192 (by decide)
            have j1 : i_32 = 134 := (zofn (i := 134) ei_32 (by decide) (by omega)).symm
            subst j1
            rw [show m 72 134 = Int32.ofNat a from (hS.1.2 26 (by omega)).trans h26] at c_33
            have j2 : i = i_57 := zofn ei_57 (by omega) (by omega)
            subst j2
            replace H := i_w [true, true, true, false] H
            rw [zofn_s] at H
            have ok := pAct_ok (i := i) (mk := aw ^^^ -1) hg
            have hlt : i < a := (zofn_lt (by omega) (by omega)).mp c_33
            rw [show a - i = (a - (i + 1)) + 1 by omega, pPlays]
            have j3 : i_44 = 108 + (18 + i) := by
              have := zix3 (a := 126) (b := i) rfl rfl ei_44 (by omega) (by omega)
              omega
            subst j3
            rw [hS.1.2 (18 + i) (by omega)] at c_59 c_72
            have hpl1 : gpl (pAct c (aw ^^^ -1) i P).1 := fun j hj => by rw [ok.2 (18 + j) (by omega)]; exact hpl j hj
            have hen1 : ∀ k, i + 1 ≤ k → (pAct c (aw ^^^ -1) i P).2.2.2.2 k = -4 := fun k hk => by rw [pAct_e (by omega)]; exact hen k (by omega)
            have h261 : (pAct c (aw ^^^ -1) i P).1 26 = Int32.ofNat a := by rw [ok.2 26 (by omega)]; exact h26
            exfalso
            have h0 := hpl i (by omega)
            rw [zps0] at c_72
            exact c_72 ⟨by rw [Int32.lt_iff_toInt_lt]; have e0 : (0 : Int32).toInt = 0 := rfl; omega, c_59⟩
          · skip
            replace H := i_iln (q := 76) H I_X8_planGoes_75 rfl rfl
            replace H := i_iln (q := 77) H I_X8_planGoes_76 rfl rfl
            replace H := i_icst (x := (-1)) (q := 78) H I_X8_planGoes_77 (by decide) rfl
            replace H := i_ixor (q := 79) H I_X8_planGoes_78 rfl
            replace H := i_iand (q := 80) H I_X8_planGoes_79 rfl
            have W := i_if_eq (t := 189) (q := 83) H I_X8_planGoes_80 (by decide) rfl
            clear H
            rcases W with ⟨c_80, H⟩ | ⟨c_80, H⟩
            · skip
              replace H := i_inc (q := 192) H I_X8_planGoes_189 rfl rfl rfl
              replace H := i_goto (q := 18) H I_X8_planGoes_192 (by decide)
              have j1 : i_32 = 134 := (zofn (i := 134) ei_32 (by decide) (by omega)).symm
              subst j1
              rw [show m 72 134 = Int32.ofNat a from (hS.1.2 26 (by omega)).trans h26] at c_33
              have j2 : i = i_57 := zofn ei_57 (by omega) (by omega)
              subst j2
              replace H := i_w [true, true, true, false] H
              rw [zofn_s] at H
              have ok := pAct_ok (i := i) (mk := aw ^^^ -1) hg
              have hlt : i < a := (zofn_lt (by omega) (by omega)).mp c_33
              rw [show a - i = (a - (i + 1)) + 1 by omega, pPlays]
              have j3 : i_44 = 108 + (18 + i) := by
                have := zix3 (a := 126) (b := i) rfl rfl ei_44 (by omega) (by omega)
                omega
              subst j3
              rw [hS.1.2 (18 + i) (by omega)] at c_59 c_80
              have hpl1 : gpl (pAct c (aw ^^^ -1) i P).1 := fun j hj => by rw [ok.2 (18 + j) (by omega)]; exact hpl j hj
              have hen1 : ∀ k, i + 1 ≤ k → (pAct c (aw ^^^ -1) i P).2.2.2.2 k = -4 := fun k hk => by rw [pAct_e (by omega)]; exact hen k (by omega)
              have h261 : (pAct c (aw ^^^ -1) i P).1 26 = Int32.ofNat a := by rw [ok.2 26 (by omega)]; exact h26
              have hS1 : rP (zup m 78 i (-4)) (i + 1) (pAct c (aw ^^^ -1) i P) := by
                unfold pAct
                rw [if_neg c_59, if_pos c_80]
                refine ⟨⟨hS.1.1, fun j hj => by rw [zup_n (by omega)]; exact hS.1.2 j hj⟩, by rw [zup_n (by omega)]; exact hS.2.1, by rw [zup_n (by omega)]; exact hS.2.2.1, by rw [zup_n (by omega)]; exact hS.2.2.2.1, fun j hj => ?_⟩
                by_cases e : j = i
                · subst e
                  rw [zup_s, hen j (Nat.le_refl j)]
                · rw [zup_n (by omega)]; exact hS.2.2.2.2 j (by omega)
              obtain ⟨m1, x1, x2, x3, x4⟩ := ih (i + 1) (pAct c (aw ^^^ -1) i P) d r h' _ (by omega) hS1 ok.1 h261 hpl1 hen1 (by rw [zup_n (by omega)]; exact hc) (by unfold zMk; rw [zup_n (by omega), zup_n (by omega), zup_n (by omega), zup_n (by omega)]; exact hM) H
              exact ⟨m1, x1, x2, x3, zfP_t (fun x y h1 h2 h3 => by rw [zup_n (by omega)]) x4⟩
            · skip
              replace H := i_aln (q := 84) H I_X8_planGoes_83 rfl rfl
              replace H := i_gfr (q := 87) H I_X8_planGoes_84 G_8_28 cn_X8_planGoes LY_71 rfl rfl
              replace H := i_iln (q := 88) H I_X8_planGoes_87 rfl rfl
              replace H := i_aln (q := 89) H I_X8_planGoes_88 rfl rfl
              replace H := i_bip (x := 108) (q := 91) H I_X8_planGoes_89 (by decide) rfl
              replace H := i_iln (q := 92) H I_X8_planGoes_91 rfl rfl
              replace H := i_iln (q := 93) H I_X8_planGoes_92 rfl rfl
              replace H := i_icst (x := (-1)) (q := 94) H I_X8_planGoes_93 (by decide) rfl
              replace H := i_ixor (q := 95) H I_X8_planGoes_94 rfl
              replace H := i_iand (q := 96) H I_X8_planGoes_95 rfl
              have W := i_cv2 3 (q := 99) H I_X8_planGoes_96 K_8_170 Zm_142 rfl rfl
              clear H
              obtain ⟨r1, h1, Hc, K1, K2⟩ := W
              obtain ⟨M_96, e1, e2, F_96⟩ := t_X8_triesOn (pg := 108) (g := P.1) (c := c) ⟨hS.1.1, fun j hj => by rw [zup_n (by omega)]; exact hS.1.2 j hj⟩ hg (by rw [zup_n (by omega)]; exact hc) (by unfold zMk; rw [zup_n (by omega), zup_n (by omega), zup_n (by omega), zup_n (by omega)]; exact hM) Hc
              have H := K1 _ _ e1 e2
              clear e1 e2 Hc K1 K2
              have W := i_iast (q := 100) H I_X8_planGoes_99 LY_78 rfl
              clear H
              obtain ⟨i_99, bi_99, ei_99, H⟩ := W
              replace H := i_aln (q := 101) H I_X8_planGoes_100 rfl rfl
              replace H := i_dup (q := 102) H I_X8_planGoes_101 rfl rfl
              replace H := i_gfi (q := 105) H I_X8_planGoes_102 G_8_179 cn_X8_planGoes LY_71 rfl rfl
              replace H := i_aln (q := 106) H I_X8_planGoes_105 rfl rfl
              replace H := i_gfr (q := 109) H I_X8_planGoes_106 G_8_28 cn_X8_planGoes LY_71 rfl rfl
              replace H := i_iln (q := 110) H I_X8_planGoes_109 rfl rfl
              have W := i_ia (q := 111) H I_X8_planGoes_110 LY_78 rfl
              clear H
              obtain ⟨i_110, bi_110, ei_110, H⟩ := W
              replace H := i_bip (x := (-4)) (q := 113) H I_X8_planGoes_111 (by decide) rfl
              have W := i_ic_ne (t := 120) (q := 116) H I_X8_planGoes_113 (by decide) rfl
              clear H
              rcases W with ⟨c_113, H⟩ | ⟨c_113, H⟩
              · skip
                replace H := i_icst (x := 1) (q := 121) H I_X8_planGoes_120 (by decide) rfl
                replace H := i_iadd (q := 122) H I_X8_planGoes_121 rfl
                replace H := i_pf (q := 125) H I_X8_planGoes_122 G_8_179 cn_X8_planGoes LY_71 rfl rfl
                replace H := i_aln (q := 126) H I_X8_planGoes_125 rfl rfl
                replace H := i_dup (q := 127) H I_X8_planGoes_126 rfl rfl
                replace H := i_gfi (q := 130) H I_X8_planGoes_127 G_8_182 cn_X8_planGoes LY_71 rfl rfl
                replace H := i_aln (q := 131) H I_X8_planGoes_130 rfl rfl
                replace H := i_gfr (q := 134) H I_X8_planGoes_131 G_8_28 cn_X8_planGoes LY_71 rfl rfl
                replace H := i_iln (q := 135) H I_X8_planGoes_134 rfl rfl
                have W := i_ia (q := 136) H I_X8_planGoes_135 LY_78 rfl
                clear H
                obtain ⟨i_135, bi_135, ei_135, H⟩ := W
                replace H := i_bip (x := (-4)) (q := 138) H I_X8_planGoes_136 (by decide) rfl
                have W := i_ic_ne (t := 145) (q := 141) H I_X8_planGoes_138 (by decide) rfl
                clear H
                rcases W with ⟨c_138, H⟩ | ⟨c_138, H⟩
                · skip
                  replace H := i_icst (x := 1) (q := 146) H I_X8_planGoes_145 (by decide) rfl
                  replace H := i_aln (q := 147) H I_X8_planGoes_146 rfl rfl
                  replace H := i_gfr (q := 150) H I_X8_planGoes_147 G_8_28 cn_X8_planGoes LY_71 rfl rfl
                  replace H := i_iln (q := 151) H I_X8_planGoes_150 rfl rfl
                  have W := i_ia (q := 152) H I_X8_planGoes_151 LY_78 rfl
                  clear H
                  obtain ⟨i_151, bi_151, ei_151, H⟩ := W
                  replace H := i_ishl (q := 153) H I_X8_planGoes_152 rfl
                  replace H := i_ior (q := 154) H I_X8_planGoes_153 rfl
                  replace H := i_pf (q := 157) H I_X8_planGoes_154 G_8_182 cn_X8_planGoes LY_71 rfl rfl
                  replace H := i_aln (q := 158) H I_X8_planGoes_157 rfl rfl
                  replace H := i_aln (q := 159) H I_X8_planGoes_158 rfl rfl
                  replace H := i_gfr (q := 162) H I_X8_planGoes_159 G_8_28 cn_X8_planGoes LY_71 rfl rfl
                  replace H := i_iln (q := 163) H I_X8_planGoes_162 rfl rfl
                  have W := i_ia (q := 164) H I_X8_planGoes_163 LY_78 rfl
                  clear H
                  obtain ⟨i_163, bi_163, ei_163, H⟩ := W
                  replace H := i_bip (x := (-4)) (q := 166) H I_X8_planGoes_164 (by decide) rfl
                  have W := i_ic_ne (t := 182) (q := 169) H I_X8_planGoes_166 (by decide) rfl
                  clear H
                  rcases W with ⟨c_166, H⟩ | ⟨c_166, H⟩
                  · skip
                    replace H := i_aln (q := 183) H I_X8_planGoes_182 rfl rfl
                    replace H := i_gfi (q := 186) H I_X8_planGoes_183 G_8_185 cn_X8_planGoes LY_71 rfl rfl
                    replace H := i_pf (q := 189) H I_X8_planGoes_186 G_8_185 cn_X8_planGoes LY_71 rfl rfl
                    replace H := i_inc (q := 192) H I_X8_planGoes_189 rfl rfl rfl
                    replace H := i_goto (q := 18) H I_X8_planGoes_192 (by decide)
                    have j1 : i_32 = 134 := (zofn (i := 134) ei_32 (by decide) (by omega)).symm
                    subst j1
                    rw [show m 72 134 = Int32.ofNat a from (hS.1.2 26 (by omega)).trans h26] at c_33
                    have j2 : i = i_57 := zofn ei_57 (by omega) (by omega)
                    subst j2
                    replace H := i_w [true, true, true, false] H
                    rw [zofn_s] at H
                    have ok := pAct_ok (i := i) (mk := aw ^^^ -1) hg
                    have hlt : i < a := (zofn_lt (by omega) (by omega)).mp c_33
                    rw [show a - i = (a - (i + 1)) + 1 by omega, pPlays]
                    have j3 : i_44 = 108 + (18 + i) := by
                      have := zix3 (a := 126) (b := i) rfl rfl ei_44 (by omega) (by omega)
                      omega
                    subst j3
                    rw [hS.1.2 (18 + i) (by omega)] at c_59 c_80
                    have hpl1 : gpl (pAct c (aw ^^^ -1) i P).1 := fun j hj => by rw [ok.2 (18 + j) (by omega)]; exact hpl j hj
                    have hen1 : ∀ k, i + 1 ≤ k → (pAct c (aw ^^^ -1) i P).2.2.2.2 k = -4 := fun k hk => by rw [pAct_e (by omega)]; exact hen k (by omega)
                    have h261 : (pAct c (aw ^^^ -1) i P).1 26 = Int32.ofNat a := by rw [ok.2 26 (by omega)]; exact h26
                    obtain ⟨P_96, K_96⟩ := F_96
                    rw [hS.1.2 (18 + i) (by omega)] at P_96 c_113 c_138 c_166 H
                    have k1 : i = i_99 := zofn ei_99 (by omega) (by omega)
                    subst k1
                    have k2 : i = i_110 := zofn ei_110 (by omega) (by omega)
                    subst k2
                    have k3 : i = i_135 := zofn ei_135 (by omega) (by omega)
                    subst k3
                    generalize hv : gTry1 P.1 c (P.1 (18 + i) &&& (aw ^^^ -1)) = v at *
                    rw [zup_s] at c_113
                    rw [zup_n (by omega), zup_s] at c_138
                    have k4 : i = i_151 := zofn ei_151 (by omega) (by omega)
                    subst k4
                    have k5 : i = i_163 := zofn ei_163 (by omega) (by omega)
                    subst k5
                    rw [zup_n (by omega), zup_n (by omega), zup_s] at c_166
                    have B18 : zup M_96 78 i v 71 18 = P.2.1 := by rw [zup_n (by omega), K_96 _ _ (by omega), zup_n (by omega)]; exact hS.2.1
                    have B19 : ∀ z, zup (zup M_96 78 i v) 71 18 z 71 19 = P.2.2.1 := fun z => by rw [zup_n (by omega), zup_n (by omega), K_96 _ _ (by omega), zup_n (by omega)]; exact hS.2.2.1
                    have B20 : ∀ z z2, zup (zup (zup M_96 78 i v) 71 18 z) 71 19 z2 71 20 = P.2.2.2.1 := fun z z2 => by rw [zup_n (by omega), zup_n (by omega), zup_n (by omega), K_96 _ _ (by omega), zup_n (by omega)]; exact hS.2.2.2.1
                    rw [B18, B19, zup_n (by omega), zup_s, B20] at H
                    generalize hQ : zup (zup (zup (zup M_96 78 i v) 71 18 (P.2.1 + 1)) 71 19 (P.2.2.1 ||| (1 <<< (v &&& 31)))) 71 20 (P.2.2.2.1) = Q at H
                    have hS1 : rP Q (i + 1) (pAct c (aw ^^^ -1) i P) := by
                      rw [← hQ]
                      unfold pAct
                      rw [if_neg c_59, if_neg c_80, hv, if_neg c_113, if_neg c_113, if_neg (fun q => c_113 q.1)]
                      refine ⟨⟨P_96.1, fun j hj => by rw [zup_n (by omega), zup_n (by omega), zup_n (by omega), zup_n (by omega)]; exact P_96.2 j hj⟩, ?_, ?_, by rw [zup_s], fun j hj => ?_⟩
                      · rw [zup_n (by omega), zup_n (by omega), zup_s]
                      · rw [zup_n (by omega), zup_s]
                      · rw [zup_n (by omega), zup_n (by omega), zup_n (by omega)]
                        show _ = gset P.2.2.2.2 i v j
                        by_cases e : j = i
                        · subst e
                          rw [zup_s, gset_s]
                        · rw [zup_n (by omega), gset_n e, K_96 _ _ (by omega), zup_n (by omega)]
                          exact hS.2.2.2.2 j (by omega)
                    have hF : zfP m Q := fun x y h1 h2 h3 => by
                      rw [← hQ, zup_n (by omega), zup_n (by omega), zup_n (by omega), zup_n (by omega), K_96 _ _ (by omega), zup_n (by omega)]
                    obtain ⟨m1, x1, x2, x3, x4⟩ := ih (i + 1) (pAct c (aw ^^^ -1) i P) d r h' _ (by omega) hS1 ok.1 h261 hpl1 hen1 (by rw [hF _ _ (by omega) (by omega) (by omega)]; exact hc) (by unfold zMk; rw [hF _ _ (by omega) (by omega) (by omega), hF _ _ (by omega) (by omega) (by omega), hF _ _ (by omega) (by omega) (by omega), hF _ _ (by omega) (by omega) (by omega)]; exact hM) H
                    exact ⟨m1, x1, x2, x3, zfP_t hF x4⟩
                  · skip
                    replace H := i_aln (q := 170) H I_X8_planGoes_169 rfl rfl
                    replace H := i_gfi (q := 173) H I_X8_planGoes_170 G_8_185 cn_X8_planGoes LY_71 rfl rfl
                    replace H := i_bip (x := (-4)) (q := 175) H I_X8_planGoes_173 (by decide) rfl
                    have W := i_ic_ne (t := 182) (q := 178) H I_X8_planGoes_175 (by decide) rfl
                    clear H
                    rcases W with ⟨c_175, H⟩ | ⟨c_175, H⟩
                    · skip
                      replace H := i_aln (q := 183) H I_X8_planGoes_182 rfl rfl
                      replace H := i_gfi (q := 186) H I_X8_planGoes_183 G_8_185 cn_X8_planGoes LY_71 rfl rfl
                      replace H := i_pf (q := 189) H I_X8_planGoes_186 G_8_185 cn_X8_planGoes LY_71 rfl rfl
                      replace H := i_inc (q := 192) H I_X8_planGoes_189 rfl rfl rfl
                      replace H := i_goto (q := 18) H I_X8_planGoes_192 (by decide)
                      have j1 : i_32 = 134 := (zofn (i := 134) ei_32 (by decide) (by omega)).symm
                      subst j1
                      rw [show m 72 134 = Int32.ofNat a from (hS.1.2 26 (by omega)).trans h26] at c_33
                      have j2 : i = i_57 := zofn ei_57 (by omega) (by omega)
                      subst j2
                      replace H := i_w [true, true, true, false] H
                      rw [zofn_s] at H
                      have ok := pAct_ok (i := i) (mk := aw ^^^ -1) hg
                      have hlt : i < a := (zofn_lt (by omega) (by omega)).mp c_33
                      rw [show a - i = (a - (i + 1)) + 1 by omega, pPlays]
                      have j3 : i_44 = 108 + (18 + i) := by
                        have := zix3 (a := 126) (b := i) rfl rfl ei_44 (by omega) (by omega)
                        omega
                      subst j3
                      rw [hS.1.2 (18 + i) (by omega)] at c_59 c_80
                      have hpl1 : gpl (pAct c (aw ^^^ -1) i P).1 := fun j hj => by rw [ok.2 (18 + j) (by omega)]; exact hpl j hj
                      have hen1 : ∀ k, i + 1 ≤ k → (pAct c (aw ^^^ -1) i P).2.2.2.2 k = -4 := fun k hk => by rw [pAct_e (by omega)]; exact hen k (by omega)
                      have h261 : (pAct c (aw ^^^ -1) i P).1 26 = Int32.ofNat a := by rw [ok.2 26 (by omega)]; exact h26
                      obtain ⟨P_96, K_96⟩ := F_96
                      rw [hS.1.2 (18 + i) (by omega)] at P_96 c_113 c_138 c_166 c_175 H
                      have k1 : i = i_99 := zofn ei_99 (by omega) (by omega)
                      subst k1
                      have k2 : i = i_110 := zofn ei_110 (by omega) (by omega)
                      subst k2
                      have k3 : i = i_135 := zofn ei_135 (by omega) (by omega)
                      subst k3
                      generalize hv : gTry1 P.1 c (P.1 (18 + i) &&& (aw ^^^ -1)) = v at *
                      rw [zup_s] at c_113
                      rw [zup_n (by omega), zup_s] at c_138
                      have k4 : i = i_151 := zofn ei_151 (by omega) (by omega)
                      subst k4
                      have k5 : i = i_163 := zofn ei_163 (by omega) (by omega)
                      subst k5
                      rw [zup_n (by omega), zup_n (by omega), zup_s] at c_166
                      exact absurd c_166 c_113
                    · skip
                      replace H := i_iln (q := 179) H I_X8_planGoes_178 rfl rfl
                      replace H := i_goto (q := 186) H I_X8_planGoes_179 (by decide)
                      replace H := i_pf (q := 189) H I_X8_planGoes_186 G_8_185 cn_X8_planGoes LY_71 rfl rfl
                      replace H := i_inc (q := 192) H I_X8_planGoes_189 rfl rfl rfl
                      replace H := i_goto (q := 18) H I_X8_planGoes_192 (by decide)
                      have j1 : i_32 = 134 := (zofn (i := 134) ei_32 (by decide) (by omega)).symm
                      subst j1
                      rw [show m 72 134 = Int32.ofNat a from (hS.1.2 26 (by omega)).trans h26] at c_33
                      have j2 : i = i_57 := zofn ei_57 (by omega) (by omega)
                      subst j2
                      replace H := i_w [true, true, true, false] H
                      rw [zofn_s] at H
                      have ok := pAct_ok (i := i) (mk := aw ^^^ -1) hg
                      have hlt : i < a := (zofn_lt (by omega) (by omega)).mp c_33
                      rw [show a - i = (a - (i + 1)) + 1 by omega, pPlays]
                      have j3 : i_44 = 108 + (18 + i) := by
                        have := zix3 (a := 126) (b := i) rfl rfl ei_44 (by omega) (by omega)
                        omega
                      subst j3
                      rw [hS.1.2 (18 + i) (by omega)] at c_59 c_80
                      have hpl1 : gpl (pAct c (aw ^^^ -1) i P).1 := fun j hj => by rw [ok.2 (18 + j) (by omega)]; exact hpl j hj
                      have hen1 : ∀ k, i + 1 ≤ k → (pAct c (aw ^^^ -1) i P).2.2.2.2 k = -4 := fun k hk => by rw [pAct_e (by omega)]; exact hen k (by omega)
                      have h261 : (pAct c (aw ^^^ -1) i P).1 26 = Int32.ofNat a := by rw [ok.2 26 (by omega)]; exact h26
                      obtain ⟨P_96, K_96⟩ := F_96
                      rw [hS.1.2 (18 + i) (by omega)] at P_96 c_113 c_138 c_166 c_175 H
                      have k1 : i = i_99 := zofn ei_99 (by omega) (by omega)
                      subst k1
                      have k2 : i = i_110 := zofn ei_110 (by omega) (by omega)
                      subst k2
                      have k3 : i = i_135 := zofn ei_135 (by omega) (by omega)
                      subst k3
                      generalize hv : gTry1 P.1 c (P.1 (18 + i) &&& (aw ^^^ -1)) = v at *
                      rw [zup_s] at c_113
                      rw [zup_n (by omega), zup_s] at c_138
                      have k4 : i = i_151 := zofn ei_151 (by omega) (by omega)
                      subst k4
                      have k5 : i = i_163 := zofn ei_163 (by omega) (by omega)
                      subst k5
                      rw [zup_n (by omega), zup_n (by omega), zup_s] at c_166
                      exact absurd c_166 c_113
                · skip
                  replace H := i_icst (x := 0) (q := 142) H I_X8_planGoes_141 (by decide) rfl
                  replace H := i_goto (q := 153) H I_X8_planGoes_142 (by decide)
                  replace H := i_ior (q := 154) H I_X8_planGoes_153 rfl
                  replace H := i_pf (q := 157) H I_X8_planGoes_154 G_8_182 cn_X8_planGoes LY_71 rfl rfl
                  replace H := i_aln (q := 158) H I_X8_planGoes_157 rfl rfl
                  replace H := i_aln (q := 159) H I_X8_planGoes_158 rfl rfl
                  replace H := i_gfr (q := 162) H I_X8_planGoes_159 G_8_28 cn_X8_planGoes LY_71 rfl rfl
                  replace H := i_iln (q := 163) H I_X8_planGoes_162 rfl rfl
                  have W := i_ia (q := 164) H I_X8_planGoes_163 LY_78 rfl
                  clear H
                  obtain ⟨i_163, bi_163, ei_163, H⟩ := W
                  replace H := i_bip (x := (-4)) (q := 166) H I_X8_planGoes_164 (by decide) rfl
                  have W := i_ic_ne (t := 182) (q := 169) H I_X8_planGoes_166 (by decide) rfl
                  clear H
                  rcases W with ⟨c_166, H⟩ | ⟨c_166, H⟩
                  · skip
                    replace H := i_aln (q := 183) H I_X8_planGoes_182 rfl rfl
                    replace H := i_gfi (q := 186) H I_X8_planGoes_183 G_8_185 cn_X8_planGoes LY_71 rfl rfl
                    replace H := i_pf (q := 189) H I_X8_planGoes_186 G_8_185 cn_X8_planGoes LY_71 rfl rfl
                    replace H := i_inc (q := 192) H I_X8_planGoes_189 rfl rfl rfl
                    replace H := i_goto (q := 18) H I_X8_planGoes_192 (by decide)
                    have j1 : i_32 = 134 := (zofn (i := 134) ei_32 (by decide) (by omega)).symm
                    subst j1
                    rw [show m 72 134 = Int32.ofNat a from (hS.1.2 26 (by omega)).trans h26] at c_33
                    have j2 : i = i_57 := zofn ei_57 (by omega) (by omega)
                    subst j2
                    replace H := i_w [true, true, true, false] H
                    rw [zofn_s] at H
                    have ok := pAct_ok (i := i) (mk := aw ^^^ -1) hg
                    have hlt : i < a := (zofn_lt (by omega) (by omega)).mp c_33
                    rw [show a - i = (a - (i + 1)) + 1 by omega, pPlays]
                    have j3 : i_44 = 108 + (18 + i) := by
                      have := zix3 (a := 126) (b := i) rfl rfl ei_44 (by omega) (by omega)
                      omega
                    subst j3
                    rw [hS.1.2 (18 + i) (by omega)] at c_59 c_80
                    have hpl1 : gpl (pAct c (aw ^^^ -1) i P).1 := fun j hj => by rw [ok.2 (18 + j) (by omega)]; exact hpl j hj
                    have hen1 : ∀ k, i + 1 ≤ k → (pAct c (aw ^^^ -1) i P).2.2.2.2 k = -4 := fun k hk => by rw [pAct_e (by omega)]; exact hen k (by omega)
                    have h261 : (pAct c (aw ^^^ -1) i P).1 26 = Int32.ofNat a := by rw [ok.2 26 (by omega)]; exact h26
                    obtain ⟨P_96, K_96⟩ := F_96
                    rw [hS.1.2 (18 + i) (by omega)] at P_96 c_113 c_138 c_166 H
                    have k1 : i = i_99 := zofn ei_99 (by omega) (by omega)
                    subst k1
                    have k2 : i = i_110 := zofn ei_110 (by omega) (by omega)
                    subst k2
                    have k3 : i = i_135 := zofn ei_135 (by omega) (by omega)
                    subst k3
                    generalize hv : gTry1 P.1 c (P.1 (18 + i) &&& (aw ^^^ -1)) = v at *
                    rw [zup_s] at c_113
                    rw [zup_n (by omega), zup_s] at c_138
                    exact absurd c_138 c_113
                  · skip
                    replace H := i_aln (q := 170) H I_X8_planGoes_169 rfl rfl
                    replace H := i_gfi (q := 173) H I_X8_planGoes_170 G_8_185 cn_X8_planGoes LY_71 rfl rfl
                    replace H := i_bip (x := (-4)) (q := 175) H I_X8_planGoes_173 (by decide) rfl
                    have W := i_ic_ne (t := 182) (q := 178) H I_X8_planGoes_175 (by decide) rfl
                    clear H
                    rcases W with ⟨c_175, H⟩ | ⟨c_175, H⟩
                    · skip
                      replace H := i_aln (q := 183) H I_X8_planGoes_182 rfl rfl
                      replace H := i_gfi (q := 186) H I_X8_planGoes_183 G_8_185 cn_X8_planGoes LY_71 rfl rfl
                      replace H := i_pf (q := 189) H I_X8_planGoes_186 G_8_185 cn_X8_planGoes LY_71 rfl rfl
                      replace H := i_inc (q := 192) H I_X8_planGoes_189 rfl rfl rfl
                      replace H := i_goto (q := 18) H I_X8_planGoes_192 (by decide)
                      have j1 : i_32 = 134 := (zofn (i := 134) ei_32 (by decide) (by omega)).symm
                      subst j1
                      rw [show m 72 134 = Int32.ofNat a from (hS.1.2 26 (by omega)).trans h26] at c_33
                      have j2 : i = i_57 := zofn ei_57 (by omega) (by omega)
                      subst j2
                      replace H := i_w [true, true, true, false] H
                      rw [zofn_s] at H
                      have ok := pAct_ok (i := i) (mk := aw ^^^ -1) hg
                      have hlt : i < a := (zofn_lt (by omega) (by omega)).mp c_33
                      rw [show a - i = (a - (i + 1)) + 1 by omega, pPlays]
                      have j3 : i_44 = 108 + (18 + i) := by
                        have := zix3 (a := 126) (b := i) rfl rfl ei_44 (by omega) (by omega)
                        omega
                      subst j3
                      rw [hS.1.2 (18 + i) (by omega)] at c_59 c_80
                      have hpl1 : gpl (pAct c (aw ^^^ -1) i P).1 := fun j hj => by rw [ok.2 (18 + j) (by omega)]; exact hpl j hj
                      have hen1 : ∀ k, i + 1 ≤ k → (pAct c (aw ^^^ -1) i P).2.2.2.2 k = -4 := fun k hk => by rw [pAct_e (by omega)]; exact hen k (by omega)
                      have h261 : (pAct c (aw ^^^ -1) i P).1 26 = Int32.ofNat a := by rw [ok.2 26 (by omega)]; exact h26
                      obtain ⟨P_96, K_96⟩ := F_96
                      rw [hS.1.2 (18 + i) (by omega)] at P_96 c_113 c_138 c_166 c_175 H
                      have k1 : i = i_99 := zofn ei_99 (by omega) (by omega)
                      subst k1
                      have k2 : i = i_110 := zofn ei_110 (by omega) (by omega)
                      subst k2
                      have k3 : i = i_135 := zofn ei_135 (by omega) (by omega)
                      subst k3
                      generalize hv : gTry1 P.1 c (P.1 (18 + i) &&& (aw ^^^ -1)) = v at *
                      rw [zup_s] at c_113
                      rw [zup_n (by omega), zup_s] at c_138
                      exact absurd c_138 c_113
                    · skip
                      replace H := i_iln (q := 179) H I_X8_planGoes_178 rfl rfl
                      replace H := i_goto (q := 186) H I_X8_planGoes_179 (by decide)
                      replace H := i_pf (q := 189) H I_X8_planGoes_186 G_8_185 cn_X8_planGoes LY_71 rfl rfl
                      replace H := i_inc (q := 192) H I_X8_planGoes_189 rfl rfl rfl
                      replace H := i_goto (q := 18) H I_X8_planGoes_192 (by decide)
                      have j1 : i_32 = 134 := (zofn (i := 134) ei_32 (by decide) (by omega)).symm
                      subst j1
                      rw [show m 72 134 = Int32.ofNat a from (hS.1.2 26 (by omega)).trans h26] at c_33
                      have j2 : i = i_57 := zofn ei_57 (by omega) (by omega)
                      subst j2
                      replace H := i_w [true, true, true, false] H
                      rw [zofn_s] at H
                      have ok := pAct_ok (i := i) (mk := aw ^^^ -1) hg
                      have hlt : i < a := (zofn_lt (by omega) (by omega)).mp c_33
                      rw [show a - i = (a - (i + 1)) + 1 by omega, pPlays]
                      have j3 : i_44 = 108 + (18 + i) := by
                        have := zix3 (a := 126) (b := i) rfl rfl ei_44 (by omega) (by omega)
                        omega
                      subst j3
                      rw [hS.1.2 (18 + i) (by omega)] at c_59 c_80
                      have hpl1 : gpl (pAct c (aw ^^^ -1) i P).1 := fun j hj => by rw [ok.2 (18 + j) (by omega)]; exact hpl j hj
                      have hen1 : ∀ k, i + 1 ≤ k → (pAct c (aw ^^^ -1) i P).2.2.2.2 k = -4 := fun k hk => by rw [pAct_e (by omega)]; exact hen k (by omega)
                      have h261 : (pAct c (aw ^^^ -1) i P).1 26 = Int32.ofNat a := by rw [ok.2 26 (by omega)]; exact h26
                      obtain ⟨P_96, K_96⟩ := F_96
                      rw [hS.1.2 (18 + i) (by omega)] at P_96 c_113 c_138 c_166 c_175 H
                      have k1 : i = i_99 := zofn ei_99 (by omega) (by omega)
                      subst k1
                      have k2 : i = i_110 := zofn ei_110 (by omega) (by omega)
                      subst k2
                      have k3 : i = i_135 := zofn ei_135 (by omega) (by omega)
                      subst k3
                      generalize hv : gTry1 P.1 c (P.1 (18 + i) &&& (aw ^^^ -1)) = v at *
                      rw [zup_s] at c_113
                      rw [zup_n (by omega), zup_s] at c_138
                      exact absurd c_138 c_113
              · skip
                replace H := i_icst (x := 0) (q := 117) H I_X8_planGoes_116 (by decide) rfl
                replace H := i_goto (q := 121) H I_X8_planGoes_117 (by decide)
                replace H := i_iadd (q := 122) H I_X8_planGoes_121 rfl
                replace H := i_pf (q := 125) H I_X8_planGoes_122 G_8_179 cn_X8_planGoes LY_71 rfl rfl
                replace H := i_aln (q := 126) H I_X8_planGoes_125 rfl rfl
                replace H := i_dup (q := 127) H I_X8_planGoes_126 rfl rfl
                replace H := i_gfi (q := 130) H I_X8_planGoes_127 G_8_182 cn_X8_planGoes LY_71 rfl rfl
                replace H := i_aln (q := 131) H I_X8_planGoes_130 rfl rfl
                replace H := i_gfr (q := 134) H I_X8_planGoes_131 G_8_28 cn_X8_planGoes LY_71 rfl rfl
                replace H := i_iln (q := 135) H I_X8_planGoes_134 rfl rfl
                have W := i_ia (q := 136) H I_X8_planGoes_135 LY_78 rfl
                clear H
                obtain ⟨i_135, bi_135, ei_135, H⟩ := W
                replace H := i_bip (x := (-4)) (q := 138) H I_X8_planGoes_136 (by decide) rfl
                have W := i_ic_ne (t := 145) (q := 141) H I_X8_planGoes_138 (by decide) rfl
                clear H
                rcases W with ⟨c_138, H⟩ | ⟨c_138, H⟩
                · skip
                  replace H := i_icst (x := 1) (q := 146) H I_X8_planGoes_145 (by decide) rfl
                  replace H := i_aln (q := 147) H I_X8_planGoes_146 rfl rfl
                  replace H := i_gfr (q := 150) H I_X8_planGoes_147 G_8_28 cn_X8_planGoes LY_71 rfl rfl
                  replace H := i_iln (q := 151) H I_X8_planGoes_150 rfl rfl
                  have W := i_ia (q := 152) H I_X8_planGoes_151 LY_78 rfl
                  clear H
                  obtain ⟨i_151, bi_151, ei_151, H⟩ := W
                  replace H := i_ishl (q := 153) H I_X8_planGoes_152 rfl
                  replace H := i_ior (q := 154) H I_X8_planGoes_153 rfl
                  replace H := i_pf (q := 157) H I_X8_planGoes_154 G_8_182 cn_X8_planGoes LY_71 rfl rfl
                  replace H := i_aln (q := 158) H I_X8_planGoes_157 rfl rfl
                  replace H := i_aln (q := 159) H I_X8_planGoes_158 rfl rfl
                  replace H := i_gfr (q := 162) H I_X8_planGoes_159 G_8_28 cn_X8_planGoes LY_71 rfl rfl
                  replace H := i_iln (q := 163) H I_X8_planGoes_162 rfl rfl
                  have W := i_ia (q := 164) H I_X8_planGoes_163 LY_78 rfl
                  clear H
                  obtain ⟨i_163, bi_163, ei_163, H⟩ := W
                  replace H := i_bip (x := (-4)) (q := 166) H I_X8_planGoes_164 (by decide) rfl
                  have W := i_ic_ne (t := 182) (q := 169) H I_X8_planGoes_166 (by decide) rfl
                  clear H
                  rcases W with ⟨c_166, H⟩ | ⟨c_166, H⟩
                  · skip
                    replace H := i_aln (q := 183) H I_X8_planGoes_182 rfl rfl
                    replace H := i_gfi (q := 186) H I_X8_planGoes_183 G_8_185 cn_X8_planGoes LY_71 rfl rfl
                    replace H := i_pf (q := 189) H I_X8_planGoes_186 G_8_185 cn_X8_planGoes LY_71 rfl rfl
                    replace H := i_inc (q := 192) H I_X8_planGoes_189 rfl rfl rfl
                    replace H := i_goto (q := 18) H I_X8_planGoes_192 (by decide)
                    have j1 : i_32 = 134 := (zofn (i := 134) ei_32 (by decide) (by omega)).symm
                    subst j1
                    rw [show m 72 134 = Int32.ofNat a from (hS.1.2 26 (by omega)).trans h26] at c_33
                    have j2 : i = i_57 := zofn ei_57 (by omega) (by omega)
                    subst j2
                    replace H := i_w [true, true, true, false] H
                    rw [zofn_s] at H
                    have ok := pAct_ok (i := i) (mk := aw ^^^ -1) hg
                    have hlt : i < a := (zofn_lt (by omega) (by omega)).mp c_33
                    rw [show a - i = (a - (i + 1)) + 1 by omega, pPlays]
                    have j3 : i_44 = 108 + (18 + i) := by
                      have := zix3 (a := 126) (b := i) rfl rfl ei_44 (by omega) (by omega)
                      omega
                    subst j3
                    rw [hS.1.2 (18 + i) (by omega)] at c_59 c_80
                    have hpl1 : gpl (pAct c (aw ^^^ -1) i P).1 := fun j hj => by rw [ok.2 (18 + j) (by omega)]; exact hpl j hj
                    have hen1 : ∀ k, i + 1 ≤ k → (pAct c (aw ^^^ -1) i P).2.2.2.2 k = -4 := fun k hk => by rw [pAct_e (by omega)]; exact hen k (by omega)
                    have h261 : (pAct c (aw ^^^ -1) i P).1 26 = Int32.ofNat a := by rw [ok.2 26 (by omega)]; exact h26
                    obtain ⟨P_96, K_96⟩ := F_96
                    rw [hS.1.2 (18 + i) (by omega)] at P_96 c_113 c_138 c_166 H
                    have k1 : i = i_99 := zofn ei_99 (by omega) (by omega)
                    subst k1
                    have k2 : i = i_110 := zofn ei_110 (by omega) (by omega)
                    subst k2
                    have k3 : i = i_135 := zofn ei_135 (by omega) (by omega)
                    subst k3
                    generalize hv : gTry1 P.1 c (P.1 (18 + i) &&& (aw ^^^ -1)) = v at *
                    rw [zup_s] at c_113
                    rw [zup_n (by omega), zup_s] at c_138
                    exact absurd c_113 c_138
                  · skip
                    replace H := i_aln (q := 170) H I_X8_planGoes_169 rfl rfl
                    replace H := i_gfi (q := 173) H I_X8_planGoes_170 G_8_185 cn_X8_planGoes LY_71 rfl rfl
                    replace H := i_bip (x := (-4)) (q := 175) H I_X8_planGoes_173 (by decide) rfl
                    have W := i_ic_ne (t := 182) (q := 178) H I_X8_planGoes_175 (by decide) rfl
                    clear H
                    rcases W with ⟨c_175, H⟩ | ⟨c_175, H⟩
                    · skip
                      replace H := i_aln (q := 183) H I_X8_planGoes_182 rfl rfl
                      replace H := i_gfi (q := 186) H I_X8_planGoes_183 G_8_185 cn_X8_planGoes LY_71 rfl rfl
                      replace H := i_pf (q := 189) H I_X8_planGoes_186 G_8_185 cn_X8_planGoes LY_71 rfl rfl
                      replace H := i_inc (q := 192) H I_X8_planGoes_189 rfl rfl rfl
                      replace H := i_goto (q := 18) H I_X8_planGoes_192 (by decide)
                      have j1 : i_32 = 134 := (zofn (i := 134) ei_32 (by decide) (by omega)).symm
                      subst j1
                      rw [show m 72 134 = Int32.ofNat a from (hS.1.2 26 (by omega)).trans h26] at c_33
                      have j2 : i = i_57 := zofn ei_57 (by omega) (by omega)
                      subst j2
                      replace H := i_w [true, true, true, false] H
                      rw [zofn_s] at H
                      have ok := pAct_ok (i := i) (mk := aw ^^^ -1) hg
                      have hlt : i < a := (zofn_lt (by omega) (by omega)).mp c_33
                      rw [show a - i = (a - (i + 1)) + 1 by omega, pPlays]
                      have j3 : i_44 = 108 + (18 + i) := by
                        have := zix3 (a := 126) (b := i) rfl rfl ei_44 (by omega) (by omega)
                        omega
                      subst j3
                      rw [hS.1.2 (18 + i) (by omega)] at c_59 c_80
                      have hpl1 : gpl (pAct c (aw ^^^ -1) i P).1 := fun j hj => by rw [ok.2 (18 + j) (by omega)]; exact hpl j hj
                      have hen1 : ∀ k, i + 1 ≤ k → (pAct c (aw ^^^ -1) i P).2.2.2.2 k = -4 := fun k hk => by rw [pAct_e (by omega)]; exact hen k (by omega)
                      have h261 : (pAct c (aw ^^^ -1) i P).1 26 = Int32.ofNat a := by rw [ok.2 26 (by omega)]; exact h26
                      obtain ⟨P_96, K_96⟩ := F_96
                      rw [hS.1.2 (18 + i) (by omega)] at P_96 c_113 c_138 c_166 c_175 H
                      have k1 : i = i_99 := zofn ei_99 (by omega) (by omega)
                      subst k1
                      have k2 : i = i_110 := zofn ei_110 (by omega) (by omega)
                      subst k2
                      have k3 : i = i_135 := zofn ei_135 (by omega) (by omega)
                      subst k3
                      generalize hv : gTry1 P.1 c (P.1 (18 + i) &&& (aw ^^^ -1)) = v at *
                      rw [zup_s] at c_113
                      rw [zup_n (by omega), zup_s] at c_138
                      exact absurd c_113 c_138
                    · skip
                      replace H := i_iln (q := 179) H I_X8_planGoes_178 rfl rfl
                      replace H := i_goto (q := 186) H I_X8_planGoes_179 (by decide)
                      replace H := i_pf (q := 189) H I_X8_planGoes_186 G_8_185 cn_X8_planGoes LY_71 rfl rfl
                      replace H := i_inc (q := 192) H I_X8_planGoes_189 rfl rfl rfl
                      replace H := i_goto (q := 18) H I_X8_planGoes_192 (by decide)
                      have j1 : i_32 = 134 := (zofn (i := 134) ei_32 (by decide) (by omega)).symm
                      subst j1
                      rw [show m 72 134 = Int32.ofNat a from (hS.1.2 26 (by omega)).trans h26] at c_33
                      have j2 : i = i_57 := zofn ei_57 (by omega) (by omega)
                      subst j2
                      replace H := i_w [true, true, true, false] H
                      rw [zofn_s] at H
                      have ok := pAct_ok (i := i) (mk := aw ^^^ -1) hg
                      have hlt : i < a := (zofn_lt (by omega) (by omega)).mp c_33
                      rw [show a - i = (a - (i + 1)) + 1 by omega, pPlays]
                      have j3 : i_44 = 108 + (18 + i) := by
                        have := zix3 (a := 126) (b := i) rfl rfl ei_44 (by omega) (by omega)
                        omega
                      subst j3
                      rw [hS.1.2 (18 + i) (by omega)] at c_59 c_80
                      have hpl1 : gpl (pAct c (aw ^^^ -1) i P).1 := fun j hj => by rw [ok.2 (18 + j) (by omega)]; exact hpl j hj
                      have hen1 : ∀ k, i + 1 ≤ k → (pAct c (aw ^^^ -1) i P).2.2.2.2 k = -4 := fun k hk => by rw [pAct_e (by omega)]; exact hen k (by omega)
                      have h261 : (pAct c (aw ^^^ -1) i P).1 26 = Int32.ofNat a := by rw [ok.2 26 (by omega)]; exact h26
                      obtain ⟨P_96, K_96⟩ := F_96
                      rw [hS.1.2 (18 + i) (by omega)] at P_96 c_113 c_138 c_166 c_175 H
                      have k1 : i = i_99 := zofn ei_99 (by omega) (by omega)
                      subst k1
                      have k2 : i = i_110 := zofn ei_110 (by omega) (by omega)
                      subst k2
                      have k3 : i = i_135 := zofn ei_135 (by omega) (by omega)
                      subst k3
                      generalize hv : gTry1 P.1 c (P.1 (18 + i) &&& (aw ^^^ -1)) = v at *
                      rw [zup_s] at c_113
                      rw [zup_n (by omega), zup_s] at c_138
                      exact absurd c_113 c_138
                · skip
                  replace H := i_icst (x := 0) (q := 142) H I_X8_planGoes_141 (by decide) rfl
                  replace H := i_goto (q := 153) H I_X8_planGoes_142 (by decide)
                  replace H := i_ior (q := 154) H I_X8_planGoes_153 rfl
                  replace H := i_pf (q := 157) H I_X8_planGoes_154 G_8_182 cn_X8_planGoes LY_71 rfl rfl
                  replace H := i_aln (q := 158) H I_X8_planGoes_157 rfl rfl
                  replace H := i_aln (q := 159) H I_X8_planGoes_158 rfl rfl
                  replace H := i_gfr (q := 162) H I_X8_planGoes_159 G_8_28 cn_X8_planGoes LY_71 rfl rfl
                  replace H := i_iln (q := 163) H I_X8_planGoes_162 rfl rfl
                  have W := i_ia (q := 164) H I_X8_planGoes_163 LY_78 rfl
                  clear H
                  obtain ⟨i_163, bi_163, ei_163, H⟩ := W
                  replace H := i_bip (x := (-4)) (q := 166) H I_X8_planGoes_164 (by decide) rfl
                  have W := i_ic_ne (t := 182) (q := 169) H I_X8_planGoes_166 (by decide) rfl
                  clear H
                  rcases W with ⟨c_166, H⟩ | ⟨c_166, H⟩
                  · skip
                    replace H := i_aln (q := 183) H I_X8_planGoes_182 rfl rfl
                    replace H := i_gfi (q := 186) H I_X8_planGoes_183 G_8_185 cn_X8_planGoes LY_71 rfl rfl
                    replace H := i_pf (q := 189) H I_X8_planGoes_186 G_8_185 cn_X8_planGoes LY_71 rfl rfl
                    replace H := i_inc (q := 192) H I_X8_planGoes_189 rfl rfl rfl
                    replace H := i_goto (q := 18) H I_X8_planGoes_192 (by decide)
                    have j1 : i_32 = 134 := (zofn (i := 134) ei_32 (by decide) (by omega)).symm
                    subst j1
                    rw [show m 72 134 = Int32.ofNat a from (hS.1.2 26 (by omega)).trans h26] at c_33
                    have j2 : i = i_57 := zofn ei_57 (by omega) (by omega)
                    subst j2
                    replace H := i_w [true, true, true, false] H
                    rw [zofn_s] at H
                    have ok := pAct_ok (i := i) (mk := aw ^^^ -1) hg
                    have hlt : i < a := (zofn_lt (by omega) (by omega)).mp c_33
                    rw [show a - i = (a - (i + 1)) + 1 by omega, pPlays]
                    have j3 : i_44 = 108 + (18 + i) := by
                      have := zix3 (a := 126) (b := i) rfl rfl ei_44 (by omega) (by omega)
                      omega
                    subst j3
                    rw [hS.1.2 (18 + i) (by omega)] at c_59 c_80
                    have hpl1 : gpl (pAct c (aw ^^^ -1) i P).1 := fun j hj => by rw [ok.2 (18 + j) (by omega)]; exact hpl j hj
                    have hen1 : ∀ k, i + 1 ≤ k → (pAct c (aw ^^^ -1) i P).2.2.2.2 k = -4 := fun k hk => by rw [pAct_e (by omega)]; exact hen k (by omega)
                    have h261 : (pAct c (aw ^^^ -1) i P).1 26 = Int32.ofNat a := by rw [ok.2 26 (by omega)]; exact h26
                    obtain ⟨P_96, K_96⟩ := F_96
                    rw [hS.1.2 (18 + i) (by omega)] at P_96 c_113 c_138 c_166 H
                    have k1 : i = i_99 := zofn ei_99 (by omega) (by omega)
                    subst k1
                    have k2 : i = i_110 := zofn ei_110 (by omega) (by omega)
                    subst k2
                    have k3 : i = i_135 := zofn ei_135 (by omega) (by omega)
                    subst k3
                    generalize hv : gTry1 P.1 c (P.1 (18 + i) &&& (aw ^^^ -1)) = v at *
                    rw [zup_s] at c_113
                    rw [zup_n (by omega), zup_s] at c_138
                    have k5 : i = i_163 := zofn ei_163 (by omega) (by omega)
                    subst k5
                    rw [zup_n (by omega), zup_n (by omega), zup_s] at c_166
                    exact absurd c_113 c_166
                  · skip
                    replace H := i_aln (q := 170) H I_X8_planGoes_169 rfl rfl
                    replace H := i_gfi (q := 173) H I_X8_planGoes_170 G_8_185 cn_X8_planGoes LY_71 rfl rfl
                    replace H := i_bip (x := (-4)) (q := 175) H I_X8_planGoes_173 (by decide) rfl
                    have W := i_ic_ne (t := 182) (q := 178) H I_X8_planGoes_175 (by decide) rfl
                    clear H
                    rcases W with ⟨c_175, H⟩ | ⟨c_175, H⟩
                    · skip
                      replace H := i_aln (q := 183) H I_X8_planGoes_182 rfl rfl
                      replace H := i_gfi (q := 186) H I_X8_planGoes_183 G_8_185 cn_X8_planGoes LY_71 rfl rfl
                      replace H := i_pf (q := 189) H I_X8_planGoes_186 G_8_185 cn_X8_planGoes LY_71 rfl rfl
                      replace H := i_inc (q := 192) H I_X8_planGoes_189 rfl rfl rfl
                      replace H := i_goto (q := 18) H I_X8_planGoes_192 (by decide)
                      have j1 : i_32 = 134 := (zofn (i := 134) ei_32 (by decide) (by omega)).symm
                      subst j1
                      rw [show m 72 134 = Int32.ofNat a from (hS.1.2 26 (by omega)).trans h26] at c_33
                      have j2 : i = i_57 := zofn ei_57 (by omega) (by omega)
                      subst j2
                      replace H := i_w [true, true, true, false] H
                      rw [zofn_s] at H
                      have ok := pAct_ok (i := i) (mk := aw ^^^ -1) hg
                      have hlt : i < a := (zofn_lt (by omega) (by omega)).mp c_33
                      rw [show a - i = (a - (i + 1)) + 1 by omega, pPlays]
                      have j3 : i_44 = 108 + (18 + i) := by
                        have := zix3 (a := 126) (b := i) rfl rfl ei_44 (by omega) (by omega)
                        omega
                      subst j3
                      rw [hS.1.2 (18 + i) (by omega)] at c_59 c_80
                      have hpl1 : gpl (pAct c (aw ^^^ -1) i P).1 := fun j hj => by rw [ok.2 (18 + j) (by omega)]; exact hpl j hj
                      have hen1 : ∀ k, i + 1 ≤ k → (pAct c (aw ^^^ -1) i P).2.2.2.2 k = -4 := fun k hk => by rw [pAct_e (by omega)]; exact hen k (by omega)
                      have h261 : (pAct c (aw ^^^ -1) i P).1 26 = Int32.ofNat a := by rw [ok.2 26 (by omega)]; exact h26
                      obtain ⟨P_96, K_96⟩ := F_96
                      rw [hS.1.2 (18 + i) (by omega)] at P_96 c_113 c_138 c_166 c_175 H
                      have k1 : i = i_99 := zofn ei_99 (by omega) (by omega)
                      subst k1
                      have k2 : i = i_110 := zofn ei_110 (by omega) (by omega)
                      subst k2
                      have k3 : i = i_135 := zofn ei_135 (by omega) (by omega)
                      subst k3
                      generalize hv : gTry1 P.1 c (P.1 (18 + i) &&& (aw ^^^ -1)) = v at *
                      rw [zup_s] at c_113
                      rw [zup_n (by omega), zup_s] at c_138
                      have k5 : i = i_163 := zofn ei_163 (by omega) (by omega)
                      subst k5
                      rw [zup_n (by omega), zup_n (by omega), zup_s] at c_166
                      have B18 : zup M_96 78 i v 71 18 = P.2.1 := by rw [zup_n (by omega), K_96 _ _ (by omega), zup_n (by omega)]; exact hS.2.1
                      have B19 : ∀ z, zup (zup M_96 78 i v) 71 18 z 71 19 = P.2.2.1 := fun z => by rw [zup_n (by omega), zup_n (by omega), K_96 _ _ (by omega), zup_n (by omega)]; exact hS.2.2.1
                      have B20 : ∀ z z2, zup (zup (zup M_96 78 i v) 71 18 z) 71 19 z2 71 20 = P.2.2.2.1 := fun z z2 => by rw [zup_n (by omega), zup_n (by omega), zup_n (by omega), K_96 _ _ (by omega), zup_n (by omega)]; exact hS.2.2.2.1
                      rw [B20] at c_175
                      rw [B18, B19, B20] at H
                      generalize hQ : zup (zup (zup (zup M_96 78 i v) 71 18 (P.2.1 + 0)) 71 19 (P.2.2.1 ||| 0)) 71 20 (P.2.2.2.1) = Q at H
                      have hS1 : rP Q (i + 1) (pAct c (aw ^^^ -1) i P) := by
                        rw [← hQ]
                        unfold pAct
                        rw [if_neg c_59, if_neg c_80, hv, if_pos c_113, if_pos c_113, if_neg (fun q => c_175 q.2)]
                        refine ⟨⟨P_96.1, fun j hj => by rw [zup_n (by omega), zup_n (by omega), zup_n (by omega), zup_n (by omega)]; exact P_96.2 j hj⟩, ?_, ?_, by rw [zup_s], fun j hj => ?_⟩
                        · rw [zup_n (by omega), zup_n (by omega), zup_s]
                          exact Int32.add_zero _
                        · rw [zup_n (by omega), zup_s]
                          exact Int32.or_zero
                        · rw [zup_n (by omega), zup_n (by omega), zup_n (by omega)]
                          show _ = gset P.2.2.2.2 i v j
                          by_cases e : j = i
                          · subst e
                            rw [zup_s, gset_s]
                          · rw [zup_n (by omega), gset_n e, K_96 _ _ (by omega), zup_n (by omega)]
                            exact hS.2.2.2.2 j (by omega)
                      have hF : zfP m Q := fun x y h1 h2 h3 => by
                        rw [← hQ, zup_n (by omega), zup_n (by omega), zup_n (by omega), zup_n (by omega), K_96 _ _ (by omega), zup_n (by omega)]
                      obtain ⟨m1, x1, x2, x3, x4⟩ := ih (i + 1) (pAct c (aw ^^^ -1) i P) d r h' _ (by omega) hS1 ok.1 h261 hpl1 hen1 (by rw [hF _ _ (by omega) (by omega) (by omega)]; exact hc) (by unfold zMk; rw [hF _ _ (by omega) (by omega) (by omega), hF _ _ (by omega) (by omega) (by omega), hF _ _ (by omega) (by omega) (by omega), hF _ _ (by omega) (by omega) (by omega)]; exact hM) H
                      exact ⟨m1, x1, x2, x3, zfP_t hF x4⟩
                    · skip
                      replace H := i_iln (q := 179) H I_X8_planGoes_178 rfl rfl
                      replace H := i_goto (q := 186) H I_X8_planGoes_179 (by decide)
                      replace H := i_pf (q := 189) H I_X8_planGoes_186 G_8_185 cn_X8_planGoes LY_71 rfl rfl
                      replace H := i_inc (q := 192) H I_X8_planGoes_189 rfl rfl rfl
                      replace H := i_goto (q := 18) H I_X8_planGoes_192 (by decide)
                      have j1 : i_32 = 134 := (zofn (i := 134) ei_32 (by decide) (by omega)).symm
                      subst j1
                      rw [show m 72 134 = Int32.ofNat a from (hS.1.2 26 (by omega)).trans h26] at c_33
                      have j2 : i = i_57 := zofn ei_57 (by omega) (by omega)
                      subst j2
                      replace H := i_w [true, true, true, false] H
                      rw [zofn_s] at H
                      have ok := pAct_ok (i := i) (mk := aw ^^^ -1) hg
                      have hlt : i < a := (zofn_lt (by omega) (by omega)).mp c_33
                      rw [show a - i = (a - (i + 1)) + 1 by omega, pPlays]
                      have j3 : i_44 = 108 + (18 + i) := by
                        have := zix3 (a := 126) (b := i) rfl rfl ei_44 (by omega) (by omega)
                        omega
                      subst j3
                      rw [hS.1.2 (18 + i) (by omega)] at c_59 c_80
                      have hpl1 : gpl (pAct c (aw ^^^ -1) i P).1 := fun j hj => by rw [ok.2 (18 + j) (by omega)]; exact hpl j hj
                      have hen1 : ∀ k, i + 1 ≤ k → (pAct c (aw ^^^ -1) i P).2.2.2.2 k = -4 := fun k hk => by rw [pAct_e (by omega)]; exact hen k (by omega)
                      have h261 : (pAct c (aw ^^^ -1) i P).1 26 = Int32.ofNat a := by rw [ok.2 26 (by omega)]; exact h26
                      obtain ⟨P_96, K_96⟩ := F_96
                      rw [hS.1.2 (18 + i) (by omega)] at P_96 c_113 c_138 c_166 c_175 H
                      have k1 : i = i_99 := zofn ei_99 (by omega) (by omega)
                      subst k1
                      have k2 : i = i_110 := zofn ei_110 (by omega) (by omega)
                      subst k2
                      have k3 : i = i_135 := zofn ei_135 (by omega) (by omega)
                      subst k3
                      generalize hv : gTry1 P.1 c (P.1 (18 + i) &&& (aw ^^^ -1)) = v at *
                      rw [zup_s] at c_113
                      rw [zup_n (by omega), zup_s] at c_138
                      have k5 : i = i_163 := zofn ei_163 (by omega) (by omega)
                      subst k5
                      rw [zup_n (by omega), zup_n (by omega), zup_s] at c_166
                      have B18 : zup M_96 78 i v 71 18 = P.2.1 := by rw [zup_n (by omega), K_96 _ _ (by omega), zup_n (by omega)]; exact hS.2.1
                      have B19 : ∀ z, zup (zup M_96 78 i v) 71 18 z 71 19 = P.2.2.1 := fun z => by rw [zup_n (by omega), zup_n (by omega), K_96 _ _ (by omega), zup_n (by omega)]; exact hS.2.2.1
                      have B20 : ∀ z z2, zup (zup (zup M_96 78 i v) 71 18 z) 71 19 z2 71 20 = P.2.2.2.1 := fun z z2 => by rw [zup_n (by omega), zup_n (by omega), zup_n (by omega), K_96 _ _ (by omega), zup_n (by omega)]; exact hS.2.2.2.1
                      rw [B20] at c_175
                      rw [B18, B19] at H
                      generalize hQ : zup (zup (zup (zup M_96 78 i v) 71 18 (P.2.1 + 0)) 71 19 (P.2.2.1 ||| 0)) 71 20 (Int32.ofNat i) = Q at H
                      have hS1 : rP Q (i + 1) (pAct c (aw ^^^ -1) i P) := by
                        rw [← hQ]
                        unfold pAct
                        rw [if_neg c_59, if_neg c_80, hv, if_pos c_113, if_pos c_113, if_pos ⟨c_113, c_175⟩]
                        refine ⟨⟨P_96.1, fun j hj => by rw [zup_n (by omega), zup_n (by omega), zup_n (by omega), zup_n (by omega)]; exact P_96.2 j hj⟩, ?_, ?_, by rw [zup_s], fun j hj => ?_⟩
                        · rw [zup_n (by omega), zup_n (by omega), zup_s]
                          exact Int32.add_zero _
                        · rw [zup_n (by omega), zup_s]
                          exact Int32.or_zero
                        · rw [zup_n (by omega), zup_n (by omega), zup_n (by omega)]
                          show _ = gset P.2.2.2.2 i v j
                          by_cases e : j = i
                          · subst e
                            rw [zup_s, gset_s]
                          · rw [zup_n (by omega), gset_n e, K_96 _ _ (by omega), zup_n (by omega)]
                            exact hS.2.2.2.2 j (by omega)
                      have hF : zfP m Q := fun x y h1 h2 h3 => by
                        rw [← hQ, zup_n (by omega), zup_n (by omega), zup_n (by omega), zup_n (by omega), K_96 _ _ (by omega), zup_n (by omega)]
                      obtain ⟨m1, x1, x2, x3, x4⟩ := ih (i + 1) (pAct c (aw ^^^ -1) i P) d r h' _ (by omega) hS1 ok.1 h261 hpl1 hen1 (by rw [hF _ _ (by omega) (by omega) (by omega)]; exact hc) (by unfold zMk; rw [hF _ _ (by omega) (by omega) (by omega), hF _ _ (by omega) (by omega) (by omega), hF _ _ (by omega) (by omega) (by omega), hF _ _ (by omega) (by omega) (by omega)]; exact hM) H
                      exact ⟨m1, x1, x2, x3, zfP_t hF x4⟩
        · skip
          replace H := i_aln (q := 63) H I_X8_planGoes_62 rfl rfl
          replace H := i_bip (x := 108) (q := 65) H I_X8_planGoes_63 (by decide) rfl
          have W := i_cv1 1 (q := 68) H I_X8_planGoes_65 K_8_176 Zm_143 rfl rfl
          clear H
          obtain ⟨r1, h1, Hc, K1, K2⟩ := W
          obtain ⟨M_65, e1, e2, F_65⟩ := t_X8_restsOn (pg := 108) (g := P.1) ⟨hS.1.1, fun j hj => by rw [zup_n (by omega)]; exact hS.1.2 j hj⟩ Hc
          have H := K2 _ e1 e2
          clear e1 e2 Hc K1 K2
          replace H := i_goto (q := 189) H I_X8_planGoes_68 (by decide)
          replace H := i_inc (q := 192) H I_X8_planGoes_189 rfl rfl rfl
          replace H := i_goto (q := 18) H I_X8_planGoes_192 (by decide)
          have j1 : i_32 = 134 := (zofn (i := 134) ei_32 (by decide) (by omega)).symm
          subst j1
          rw [show m 72 134 = Int32.ofNat a from (hS.1.2 26 (by omega)).trans h26] at c_33
          have j2 : i = i_57 := zofn ei_57 (by omega) (by omega)
          subst j2
          replace H := i_w [true, true, true, false] H
          rw [zofn_s] at H
          have ok := pAct_ok (i := i) (mk := aw ^^^ -1) hg
          have hlt : i < a := (zofn_lt (by omega) (by omega)).mp c_33
          rw [show a - i = (a - (i + 1)) + 1 by omega, pPlays]
          have j3 : i_44 = 108 + (18 + i) := by
            have := zix3 (a := 126) (b := i) rfl rfl ei_44 (by omega) (by omega)
            omega
          subst j3
          rw [hS.1.2 (18 + i) (by omega)] at c_59
          have hpl1 : gpl (pAct c (aw ^^^ -1) i P).1 := fun j hj => by rw [ok.2 (18 + j) (by omega)]; exact hpl j hj
          have hen1 : ∀ k, i + 1 ≤ k → (pAct c (aw ^^^ -1) i P).2.2.2.2 k = -4 := fun k hk => by rw [pAct_e (by omega)]; exact hen k (by omega)
          have h261 : (pAct c (aw ^^^ -1) i P).1 26 = Int32.ofNat a := by rw [ok.2 26 (by omega)]; exact h26
          obtain ⟨P_65, K_65⟩ := F_65
          have hS1 : rP M_65 (i + 1) (pAct c (aw ^^^ -1) i P) := by
            unfold pAct
            rw [if_pos c_59]
            refine ⟨P_65, by rw [K_65 _ _ (by omega), zup_n (by omega)]; exact hS.2.1, by rw [K_65 _ _ (by omega), zup_n (by omega)]; exact hS.2.2.1, by rw [K_65 _ _ (by omega), zup_n (by omega)]; exact hS.2.2.2.1, fun j hj => ?_⟩
            rw [K_65 _ _ (by omega)]
            by_cases e : j = i
            · subst e
              rw [zup_s]
              exact (hen j (Nat.le_refl j)).symm
            · rw [zup_n (by omega)]; exact hS.2.2.2.2 j (by omega)
          obtain ⟨m1, x1, x2, x3, x4⟩ := ih (i + 1) (pAct c (aw ^^^ -1) i P) d r h' _ (by omega) hS1 ok.1 h261 hpl1 hen1 (by rw [K_65 _ _ (by omega), zup_n (by omega)]; exact hc) (by unfold zMk; rw [K_65 _ _ (by omega), K_65 _ _ (by omega), K_65 _ _ (by omega), K_65 _ _ (by omega), zup_n (by omega), zup_n (by omega), zup_n (by omega), zup_n (by omega)]; exact hM) H
          exact ⟨m1, x1, x2, x3, zfP_t (fun x y h1 h2 h3 => by rw [K_65 _ _ (by omega), zup_n (by omega)]) x4⟩
theorem t_X8_planGoes {d : Nat} {m : zM} {r : Option Value} {h' : zHp} {c a : Nat} {aw : Int32} {g : Nat → Int32} (hP : PG m 108 g) (hg : gok g c) (ha : g 26 = Int32.ofNat a) (ha8 : a ≤ 8) (hpl : gpl g) (hc : m 71 2 = Int32.ofNat c) (hM : zMk m) (H : zE none d zm_X8_planGoes 0 [.ref 71, .int aw, .null, .null] [] m r h') : ∃ m1, r = none ∧ h' = zhp m1 ∧ rP m1 8 (pPlays c (aw ^^^ -1) (zna g) 0 (zPy0 g)) ∧ zfP m m1 := by
  have en : zna g = a := by unfold zna; rw [ha, Int32.toNatClampNeg_ofNat_of_lt (by omega)]
  replace H := i_aln (q := 1) H I_X8_planGoes_0 rfl rfl
  replace H := i_icst (x := 0) (q := 2) H I_X8_planGoes_1 (by decide) rfl
  replace H := i_pf (q := 5) H I_X8_planGoes_2 G_8_179 cn_X8_planGoes LY_71 rfl rfl
  replace H := i_aln (q := 6) H I_X8_planGoes_5 rfl rfl
  replace H := i_icst (x := 0) (q := 7) H I_X8_planGoes_6 (by decide) rfl
  replace H := i_pf (q := 10) H I_X8_planGoes_7 G_8_182 cn_X8_planGoes LY_71 rfl rfl
  replace H := i_aln (q := 11) H I_X8_planGoes_10 rfl rfl
  replace H := i_bip (x := (-4)) (q := 13) H I_X8_planGoes_11 (by decide) rfl
  replace H := i_pf (q := 16) H I_X8_planGoes_13 G_8_185 cn_X8_planGoes LY_71 rfl rfl
  replace H := i_icst (x := 0) (q := 17) H I_X8_planGoes_16 (by decide) rfl
  replace H := i_isn (q := 18) H I_X8_planGoes_17 rfl rfl
  obtain ⟨m1, x1, x2, x3, x4⟩ := pg_loop (c := c) (aw := aw) ha8 8 0 (zPy0 g) d r h' _ rfl ⟨⟨hP.1, fun j hj => by rw [zup_n (by omega), zup_n (by omega), zup_n (by omega)]; exact hP.2 j hj⟩, by rw [zup_n (by omega), zup_n (by omega), zup_s]; rfl, by rw [zup_n (by omega), zup_s]; rfl, by rw [zup_s]; rfl, fun j hj => by omega⟩ hg ha hpl (fun _ _ => rfl) (by rw [zup_n (by omega), zup_n (by omega), zup_n (by omega)]; exact hc) (by unfold zMk; rw [zup_n (by omega), zup_n (by omega), zup_n (by omega), zup_n (by omega), zup_n (by omega), zup_n (by omega), zup_n (by omega), zup_n (by omega), zup_n (by omega), zup_n (by omega), zup_n (by omega), zup_n (by omega)]; exact hM) H
  rw [en]
  exact ⟨m1, x1, x2, x3, zfP_t (fun x y h1 h2 h3 => by rw [zup_n (by omega), zup_n (by omega), zup_n (by omega)]) x4⟩
