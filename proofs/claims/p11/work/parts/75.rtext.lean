/-! the reference's text -/
theorem It_X8_text : zm_X8_text.2.2.2.2.2 = zt_X8_text := by
  unfold zm_X8_text
  rfl
theorem I_X8_text_0 : zin zm_X8_text.2.2.2.2.2 0 = some (.aload_n 0, 1) := by rw [It_X8_text]; rfl
theorem I_X8_text_1 : zin zm_X8_text.2.2.2.2.2 1 = some (.iconst 0, 1) := by rw [It_X8_text]; rfl
theorem I_X8_text_2 : zin zm_X8_text.2.2.2.2.2 2 = some (.putfield 63, 3) := by rw [It_X8_text]; rfl
theorem I_X8_text_5 : zin zm_X8_text.2.2.2.2.2 5 = some (.aload_n 0, 1) := by rw [It_X8_text]; rfl
theorem I_X8_text_6 : zin zm_X8_text.2.2.2.2.2 6 = some (.iconst 0, 1) := by rw [It_X8_text]; rfl
theorem I_X8_text_7 : zin zm_X8_text.2.2.2.2.2 7 = some (.putfield 75, 3) := by rw [It_X8_text]; rfl
theorem I_X8_text_10 : zin zm_X8_text.2.2.2.2.2 10 = some (.aload_n 0, 1) := by rw [It_X8_text]; rfl
theorem I_X8_text_11 : zin zm_X8_text.2.2.2.2.2 11 = some (.iconst 0, 1) := by rw [It_X8_text]; rfl
theorem I_X8_text_12 : zin zm_X8_text.2.2.2.2.2 12 = some (.putfield 107, 3) := by rw [It_X8_text]; rfl
theorem I_X8_text_15 : zin zm_X8_text.2.2.2.2.2 15 = some (.aload_n 0, 1) := by rw [It_X8_text]; rfl
theorem I_X8_text_16 : zin zm_X8_text.2.2.2.2.2 16 = some (.iconst 0, 1) := by rw [It_X8_text]; rfl
theorem I_X8_text_17 : zin zm_X8_text.2.2.2.2.2 17 = some (.putfield 119, 3) := by rw [It_X8_text]; rfl
theorem I_X8_text_20 : zin zm_X8_text.2.2.2.2.2 20 = some (.aload_n 0, 1) := by rw [It_X8_text]; rfl
theorem I_X8_text_21 : zin zm_X8_text.2.2.2.2.2 21 = some (.iconst 0, 1) := by rw [It_X8_text]; rfl
theorem I_X8_text_22 : zin zm_X8_text.2.2.2.2.2 22 = some (.putfield 104, 3) := by rw [It_X8_text]; rfl
theorem I_X8_text_25 : zin zm_X8_text.2.2.2.2.2 25 = some (.iconst 0, 1) := by rw [It_X8_text]; rfl
theorem I_X8_text_26 : zin zm_X8_text.2.2.2.2.2 26 = some (.istore_n 1, 1) := by rw [It_X8_text]; rfl
theorem I_X8_text_27 : zin zm_X8_text.2.2.2.2.2 27 = some (.iconst 0, 1) := by rw [It_X8_text]; rfl
theorem I_X8_text_28 : zin zm_X8_text.2.2.2.2.2 28 = some (.istore_n 2, 1) := by rw [It_X8_text]; rfl
theorem I_X8_text_29 : zin zm_X8_text.2.2.2.2.2 29 = some (.iload_n 2, 1) := by rw [It_X8_text]; rfl
theorem I_X8_text_30 : zin zm_X8_text.2.2.2.2.2 30 = some (.bipush 27, 2) := by rw [It_X8_text]; rfl
theorem I_X8_text_32 : zin zm_X8_text.2.2.2.2.2 32 = some (.if_icmp .ge 16, 3) := by rw [It_X8_text]; rfl
theorem I_X8_text_35 : zin zm_X8_text.2.2.2.2.2 35 = some (.aload_n 0, 1) := by rw [It_X8_text]; rfl
theorem I_X8_text_36 : zin zm_X8_text.2.2.2.2.2 36 = some (.getfield 16, 3) := by rw [It_X8_text]; rfl
theorem I_X8_text_39 : zin zm_X8_text.2.2.2.2.2 39 = some (.iload_n 2, 1) := by rw [It_X8_text]; rfl
theorem I_X8_text_40 : zin zm_X8_text.2.2.2.2.2 40 = some (.iconst 0, 1) := by rw [It_X8_text]; rfl
theorem I_X8_text_41 : zin zm_X8_text.2.2.2.2.2 41 = some (.iastore, 1) := by rw [It_X8_text]; rfl
theorem I_X8_text_42 : zin zm_X8_text.2.2.2.2.2 42 = some (.iinc 2 1, 3) := by rw [It_X8_text]; rfl
theorem I_X8_text_45 : zin zm_X8_text.2.2.2.2.2 45 = some (.goto (-16), 3) := by rw [It_X8_text]; rfl
theorem I_X8_text_48 : zin zm_X8_text.2.2.2.2.2 48 = some (.aload_n 0, 1) := by rw [It_X8_text]; rfl
theorem I_X8_text_49 : zin zm_X8_text.2.2.2.2.2 49 = some (.invokevirtual 97, 3) := by rw [It_X8_text]; rfl
theorem I_X8_text_52 : zin zm_X8_text.2.2.2.2.2 52 = some (.aload_n 0, 1) := by rw [It_X8_text]; rfl
theorem I_X8_text_53 : zin zm_X8_text.2.2.2.2.2 53 = some (.getfield 63, 3) := by rw [It_X8_text]; rfl
theorem I_X8_text_56 : zin zm_X8_text.2.2.2.2.2 56 = some (.ifCond .ne 20, 3) := by rw [It_X8_text]; rfl
theorem I_X8_text_59 : zin zm_X8_text.2.2.2.2.2 59 = some (.aload_n 0, 1) := by rw [It_X8_text]; rfl
theorem I_X8_text_60 : zin zm_X8_text.2.2.2.2.2 60 = some (.getfield 72, 3) := by rw [It_X8_text]; rfl
theorem I_X8_text_63 : zin zm_X8_text.2.2.2.2.2 63 = some (.ifCond .eq 13, 3) := by rw [It_X8_text]; rfl
theorem I_X8_text_66 : zin zm_X8_text.2.2.2.2.2 66 = some (.aload_n 0, 1) := by rw [It_X8_text]; rfl
theorem I_X8_text_67 : zin zm_X8_text.2.2.2.2.2 67 = some (.invokevirtual 125, 3) := by rw [It_X8_text]; rfl
theorem I_X8_text_70 : zin zm_X8_text.2.2.2.2.2 70 = some (.iinc 1 1, 3) := by rw [It_X8_text]; rfl
theorem I_X8_text_73 : zin zm_X8_text.2.2.2.2.2 73 = some (.goto (-21), 3) := by rw [It_X8_text]; rfl
theorem I_X8_text_76 : zin zm_X8_text.2.2.2.2.2 76 = some (.aload_n 0, 1) := by rw [It_X8_text]; rfl
theorem I_X8_text_77 : zin zm_X8_text.2.2.2.2.2 77 = some (.getfield 63, 3) := by rw [It_X8_text]; rfl
theorem I_X8_text_80 : zin zm_X8_text.2.2.2.2.2 80 = some (.ifCond .ne 29, 3) := by rw [It_X8_text]; rfl
theorem I_X8_text_83 : zin zm_X8_text.2.2.2.2.2 83 = some (.aload_n 0, 1) := by rw [It_X8_text]; rfl
theorem I_X8_text_84 : zin zm_X8_text.2.2.2.2.2 84 = some (.getfield 104, 3) := by rw [It_X8_text]; rfl
theorem I_X8_text_87 : zin zm_X8_text.2.2.2.2.2 87 = some (.aload_n 0, 1) := by rw [It_X8_text]; rfl
theorem I_X8_text_88 : zin zm_X8_text.2.2.2.2.2 88 = some (.getfield 16, 3) := by rw [It_X8_text]; rfl
theorem I_X8_text_91 : zin zm_X8_text.2.2.2.2.2 91 = some (.bipush 15, 2) := by rw [It_X8_text]; rfl
theorem I_X8_text_93 : zin zm_X8_text.2.2.2.2.2 93 = some (.iaload, 1) := by rw [It_X8_text]; rfl
theorem I_X8_text_94 : zin zm_X8_text.2.2.2.2.2 94 = some (.ior, 1) := by rw [It_X8_text]; rfl
theorem I_X8_text_95 : zin zm_X8_text.2.2.2.2.2 95 = some (.aload_n 0, 1) := by rw [It_X8_text]; rfl
theorem I_X8_text_96 : zin zm_X8_text.2.2.2.2.2 96 = some (.getfield 107, 3) := by rw [It_X8_text]; rfl
theorem I_X8_text_99 : zin zm_X8_text.2.2.2.2.2 99 = some (.ishr, 1) := by rw [It_X8_text]; rfl
theorem I_X8_text_100 : zin zm_X8_text.2.2.2.2.2 100 = some (.ifCond .eq 9, 3) := by rw [It_X8_text]; rfl
theorem I_X8_text_103 : zin zm_X8_text.2.2.2.2.2 103 = some (.aload_n 0, 1) := by rw [It_X8_text]; rfl
theorem I_X8_text_104 : zin zm_X8_text.2.2.2.2.2 104 = some (.bipush 6, 2) := by rw [It_X8_text]; rfl
theorem I_X8_text_106 : zin zm_X8_text.2.2.2.2.2 106 = some (.invokevirtual 93, 3) := by rw [It_X8_text]; rfl
theorem I_X8_text_109 : zin zm_X8_text.2.2.2.2.2 109 = some (.aload_n 0, 1) := by rw [It_X8_text]; rfl
theorem I_X8_text_110 : zin zm_X8_text.2.2.2.2.2 110 = some (.iconst 0, 1) := by rw [It_X8_text]; rfl
theorem I_X8_text_111 : zin zm_X8_text.2.2.2.2.2 111 = some (.putfield 59, 3) := by rw [It_X8_text]; rfl
theorem I_X8_text_114 : zin zm_X8_text.2.2.2.2.2 114 = some (.aload_n 0, 1) := by rw [It_X8_text]; rfl
theorem I_X8_text_115 : zin zm_X8_text.2.2.2.2.2 115 = some (.aload_n 0, 1) := by rw [It_X8_text]; rfl
theorem I_X8_text_116 : zin zm_X8_text.2.2.2.2.2 116 = some (.getfield 63, 3) := by rw [It_X8_text]; rfl
theorem I_X8_text_119 : zin zm_X8_text.2.2.2.2.2 119 = some (.putfield 128, 3) := by rw [It_X8_text]; rfl
theorem I_X8_text_122 : zin zm_X8_text.2.2.2.2.2 122 = some (.aload_n 0, 1) := by rw [It_X8_text]; rfl
theorem I_X8_text_123 : zin zm_X8_text.2.2.2.2.2 123 = some (.getfield 63, 3) := by rw [It_X8_text]; rfl
theorem I_X8_text_126 : zin zm_X8_text.2.2.2.2.2 126 = some (.ifCond .le 11, 3) := by rw [It_X8_text]; rfl
theorem I_X8_text_129 : zin zm_X8_text.2.2.2.2.2 129 = some (.bipush (-10), 2) := by rw [It_X8_text]; rfl
theorem I_X8_text_131 : zin zm_X8_text.2.2.2.2.2 131 = some (.aload_n 0, 1) := by rw [It_X8_text]; rfl
theorem I_X8_text_132 : zin zm_X8_text.2.2.2.2.2 132 = some (.getfield 69, 3) := by rw [It_X8_text]; rfl
theorem I_X8_text_135 : zin zm_X8_text.2.2.2.2.2 135 = some (.isub, 1) := by rw [It_X8_text]; rfl
theorem I_X8_text_136 : zin zm_X8_text.2.2.2.2.2 136 = some (.ireturn, 1) := by rw [It_X8_text]; rfl
theorem I_X8_text_137 : zin zm_X8_text.2.2.2.2.2 137 = some (.iconst 0, 1) := by rw [It_X8_text]; rfl
theorem I_X8_text_138 : zin zm_X8_text.2.2.2.2.2 138 = some (.istore_n 2, 1) := by rw [It_X8_text]; rfl
theorem I_X8_text_139 : zin zm_X8_text.2.2.2.2.2 139 = some (.iload_n 2, 1) := by rw [It_X8_text]; rfl
theorem I_X8_text_140 : zin zm_X8_text.2.2.2.2.2 140 = some (.bipush 27, 2) := by rw [It_X8_text]; rfl
theorem I_X8_text_142 : zin zm_X8_text.2.2.2.2.2 142 = some (.if_icmp .ge 21, 3) := by rw [It_X8_text]; rfl
theorem I_X8_text_145 : zin zm_X8_text.2.2.2.2.2 145 = some (.aload_n 0, 1) := by rw [It_X8_text]; rfl
theorem I_X8_text_146 : zin zm_X8_text.2.2.2.2.2 146 = some (.getfield 7, 3) := by rw [It_X8_text]; rfl
theorem I_X8_text_149 : zin zm_X8_text.2.2.2.2.2 149 = some (.iload_n 2, 1) := by rw [It_X8_text]; rfl
theorem I_X8_text_150 : zin zm_X8_text.2.2.2.2.2 150 = some (.aload_n 0, 1) := by rw [It_X8_text]; rfl
theorem I_X8_text_151 : zin zm_X8_text.2.2.2.2.2 151 = some (.getfield 16, 3) := by rw [It_X8_text]; rfl
theorem I_X8_text_154 : zin zm_X8_text.2.2.2.2.2 154 = some (.iload_n 2, 1) := by rw [It_X8_text]; rfl
theorem I_X8_text_155 : zin zm_X8_text.2.2.2.2.2 155 = some (.iaload, 1) := by rw [It_X8_text]; rfl
theorem I_X8_text_156 : zin zm_X8_text.2.2.2.2.2 156 = some (.iastore, 1) := by rw [It_X8_text]; rfl
theorem I_X8_text_157 : zin zm_X8_text.2.2.2.2.2 157 = some (.iinc 2 1, 3) := by rw [It_X8_text]; rfl
theorem I_X8_text_160 : zin zm_X8_text.2.2.2.2.2 160 = some (.goto (-21), 3) := by rw [It_X8_text]; rfl
theorem I_X8_text_163 : zin zm_X8_text.2.2.2.2.2 163 = some (.aload_n 0, 1) := by rw [It_X8_text]; rfl
theorem I_X8_text_164 : zin zm_X8_text.2.2.2.2.2 164 = some (.aload_n 0, 1) := by rw [It_X8_text]; rfl
theorem I_X8_text_165 : zin zm_X8_text.2.2.2.2.2 165 = some (.getfield 107, 3) := by rw [It_X8_text]; rfl
theorem I_X8_text_168 : zin zm_X8_text.2.2.2.2.2 168 = some (.putfield 131, 3) := by rw [It_X8_text]; rfl
theorem I_X8_text_171 : zin zm_X8_text.2.2.2.2.2 171 = some (.aload_n 0, 1) := by rw [It_X8_text]; rfl
theorem I_X8_text_172 : zin zm_X8_text.2.2.2.2.2 172 = some (.iconst 0, 1) := by rw [It_X8_text]; rfl
theorem I_X8_text_173 : zin zm_X8_text.2.2.2.2.2 173 = some (.putfield 134, 3) := by rw [It_X8_text]; rfl
theorem I_X8_text_176 : zin zm_X8_text.2.2.2.2.2 176 = some (.aload_n 0, 1) := by rw [It_X8_text]; rfl
theorem I_X8_text_177 : zin zm_X8_text.2.2.2.2.2 177 = some (.getfield 41, 3) := by rw [It_X8_text]; rfl
theorem I_X8_text_180 : zin zm_X8_text.2.2.2.2.2 180 = some (.iconst 0, 1) := by rw [It_X8_text]; rfl
theorem I_X8_text_181 : zin zm_X8_text.2.2.2.2.2 181 = some (.iconst 0, 1) := by rw [It_X8_text]; rfl
theorem I_X8_text_182 : zin zm_X8_text.2.2.2.2.2 182 = some (.bastore, 1) := by rw [It_X8_text]; rfl
theorem I_X8_text_183 : zin zm_X8_text.2.2.2.2.2 183 = some (.aload_n 0, 1) := by rw [It_X8_text]; rfl
theorem I_X8_text_184 : zin zm_X8_text.2.2.2.2.2 184 = some (.getfield 41, 3) := by rw [It_X8_text]; rfl
theorem I_X8_text_187 : zin zm_X8_text.2.2.2.2.2 187 = some (.iconst 1, 1) := by rw [It_X8_text]; rfl
theorem I_X8_text_188 : zin zm_X8_text.2.2.2.2.2 188 = some (.iconst 0, 1) := by rw [It_X8_text]; rfl
theorem I_X8_text_189 : zin zm_X8_text.2.2.2.2.2 189 = some (.bastore, 1) := by rw [It_X8_text]; rfl
theorem I_X8_text_190 : zin zm_X8_text.2.2.2.2.2 190 = some (.iload_n 1, 1) := by rw [It_X8_text]; rfl
theorem I_X8_text_191 : zin zm_X8_text.2.2.2.2.2 191 = some (.ireturn, 1) := by rw [It_X8_text]; rfl
theorem G_8_7 : zlk zfls 8 7 = some (8, 0, 841) := rfl
theorem G_8_41 : zlk zfls 8 41 = some (8, 26, 867) := rfl
theorem G_8_128 : zlk zfls 8 128 = some (8, 9, 850) := rfl
theorem G_8_131 : zlk zfls 8 131 = some (8, 2, 843) := rfl
theorem G_8_134 : zlk zfls 8 134 = some (8, 23, 864) := rfl
theorem K_8_125 : zlk zmls 8 125 = some (0, 124, 0, 967) := rfl
theorem Zm_124 : zms[124]? = some zm_X8_readLine := rfl
theorem LY_72 : zLY[72]? = some (Sum.inl 0, List.replicate 135 none) := rfl
theorem LY_82 : zLY[82]? = some (Sum.inl 2, List.replicate 2 none) := rfl
theorem cl_X8_text : zm_X8_text.2.2.2.2.1 = 8 := by
  unfold zm_X8_text
  rfl
theorem cn_X8_text : zm_X8_text.2.2.2.2.1 ≠ 12 := by
  rw [cl_X8_text]
  decide
theorem cn2_X8_text : zm_X8_text.2.2.2.2.1 ≠ 2 := by
  rw [cl_X8_text]
  decide
theorem tz_loop {x : Int32} : ∀ (j i d : Nat) (r : Option Value) (h' : zHp) (m : zM), i + j = 27 → zE none d zm_X8_text 29 [.ref 71, .int x, .int (Int32.ofNat i)] [] m r h' → ∃ m1, zE none d zm_X8_text 48 [.ref 71, .int x, .null] [] m1 r h' ∧ (∀ k, i ≤ k → k < 27 → m1 74 k = 0) ∧ ∀ a b, ¬ (a = 74 ∧ i ≤ b ∧ b < 27) → m1 a b = m a b := by
  intro j
  induction j with
  | zero =>
    intro i d r h' m hj H
    replace H := i_iln (q := 30) H I_X8_text_29 rfl rfl
    replace H := i_bip (x := 27) (q := 32) H I_X8_text_30 (by decide) rfl
    have W := i_ic_ge (t := 48) (q := 35) H I_X8_text_32 (by decide) rfl
    clear H
    rcases W with ⟨c_32, H⟩ | ⟨c_32, H⟩
    · skip
      replace H := i_w [true, true, false] H
      exact ⟨m, H, fun k h1 h2 => by omega, fun a b _ => rfl⟩
    · skip
      replace H := i_aln (q := 36) H I_X8_text_35 rfl rfl
      replace H := i_gfr (q := 39) H I_X8_text_36 G_8_16 cn_X8_text LY_71 rfl rfl
      replace H := i_iln (q := 40) H I_X8_text_39 rfl rfl
      replace H := i_icst (x := 0) (q := 41) H I_X8_text_40 (by decide) rfl
      have W := i_iast (q := 42) H I_X8_text_41 LY_74 rfl
      clear H
      obtain ⟨i_41, bi_41, ei_41, H⟩ := W
      replace H := i_inc (q := 45) H I_X8_text_42 rfl rfl rfl
      replace H := i_goto (q := 29) H I_X8_text_45 (by decide)
      exfalso
      exact absurd ((zofn_lt (j := 27) (by omega) (by decide)).mp c_32) (by omega)
  | succ j ih =>
    intro i d r h' m hj H
    replace H := i_iln (q := 30) H I_X8_text_29 rfl rfl
    replace H := i_bip (x := 27) (q := 32) H I_X8_text_30 (by decide) rfl
    have W := i_ic_ge (t := 48) (q := 35) H I_X8_text_32 (by decide) rfl
    clear H
    rcases W with ⟨c_32, H⟩ | ⟨c_32, H⟩
    · skip
      exfalso
      exact c_32 ((zofn_lt (j := 27) (by omega) (by decide)).mpr (by omega))
    · skip
      replace H := i_aln (q := 36) H I_X8_text_35 rfl rfl
      replace H := i_gfr (q := 39) H I_X8_text_36 G_8_16 cn_X8_text LY_71 rfl rfl
      replace H := i_iln (q := 40) H I_X8_text_39 rfl rfl
      replace H := i_icst (x := 0) (q := 41) H I_X8_text_40 (by decide) rfl
      have W := i_iast (q := 42) H I_X8_text_41 LY_74 rfl
      clear H
      obtain ⟨i_41, bi_41, ei_41, H⟩ := W
      replace H := i_inc (q := 45) H I_X8_text_42 rfl rfl rfl
      replace H := i_goto (q := 29) H I_X8_text_45 (by decide)
      have e : i = i_41 := zofn ei_41 (by omega) (by omega)
      subst e
      replace H : zE none d zm_X8_text 29 [.ref 71, .int x, .int (Int32.ofNat (i + 1))] [] (zup m 74 i 0) r h' := by
        rw [zofn_s] at H
        exact H
      obtain ⟨m1, g1, g3, g4⟩ := ih (i + 1) d r h' _ (by omega) H
      refine ⟨m1, g1, fun k h1 h2 => ?_, fun a b hab => ?_⟩
      · by_cases hi' : k = i
        · subst hi'
          rw [g4 _ _ (by omega), zup_s]
        · exact g3 k (by omega) h2
      · rw [g4 a b (by omega), zup_n (by omega)]
theorem tc_loop {x : Int32} : ∀ (j i d : Nat) (r : Option Value) (h' : zHp) (m : zM), i + j = 27 → zE none d zm_X8_text 139 [.ref 71, .int x, .int (Int32.ofNat i)] [] m r h' → ∃ m1, zE none d zm_X8_text 163 [.ref 71, .int x, .null] [] m1 r h' ∧ (∀ k, i ≤ k → k < 27 → m1 72 k = m 74 k) ∧ ∀ a b, ¬ (a = 72 ∧ i ≤ b ∧ b < 27) → m1 a b = m a b := by
  intro j
  induction j with
  | zero =>
    intro i d r h' m hj H
    replace H := i_iln (q := 140) H I_X8_text_139 rfl rfl
    replace H := i_bip (x := 27) (q := 142) H I_X8_text_140 (by decide) rfl
    have W := i_ic_ge (t := 163) (q := 145) H I_X8_text_142 (by decide) rfl
    clear H
    rcases W with ⟨c_142, H⟩ | ⟨c_142, H⟩
    · skip
      replace H := i_w [true, true, false] H
      exact ⟨m, H, fun k h1 h2 => by omega, fun a b _ => rfl⟩
    · skip
      replace H := i_aln (q := 146) H I_X8_text_145 rfl rfl
      replace H := i_gfr (q := 149) H I_X8_text_146 G_8_7 cn_X8_text LY_71 rfl rfl
      replace H := i_iln (q := 150) H I_X8_text_149 rfl rfl
      replace H := i_aln (q := 151) H I_X8_text_150 rfl rfl
      replace H := i_gfr (q := 154) H I_X8_text_151 G_8_16 cn_X8_text LY_71 rfl rfl
      replace H := i_iln (q := 155) H I_X8_text_154 rfl rfl
      have W := i_ia (q := 156) H I_X8_text_155 LY_74 rfl
      clear H
      obtain ⟨i_155, bi_155, ei_155, H⟩ := W
      have W := i_iast (q := 157) H I_X8_text_156 LY_72 rfl
      clear H
      obtain ⟨i_156, bi_156, ei_156, H⟩ := W
      replace H := i_inc (q := 160) H I_X8_text_157 rfl rfl rfl
      replace H := i_goto (q := 139) H I_X8_text_160 (by decide)
      exfalso
      exact absurd ((zofn_lt (j := 27) (by omega) (by decide)).mp c_142) (by omega)
  | succ j ih =>
    intro i d r h' m hj H
    replace H := i_iln (q := 140) H I_X8_text_139 rfl rfl
    replace H := i_bip (x := 27) (q := 142) H I_X8_text_140 (by decide) rfl
    have W := i_ic_ge (t := 163) (q := 145) H I_X8_text_142 (by decide) rfl
    clear H
    rcases W with ⟨c_142, H⟩ | ⟨c_142, H⟩
    · skip
      exfalso
      exact c_142 ((zofn_lt (j := 27) (by omega) (by decide)).mpr (by omega))
    · skip
      replace H := i_aln (q := 146) H I_X8_text_145 rfl rfl
      replace H := i_gfr (q := 149) H I_X8_text_146 G_8_7 cn_X8_text LY_71 rfl rfl
      replace H := i_iln (q := 150) H I_X8_text_149 rfl rfl
      replace H := i_aln (q := 151) H I_X8_text_150 rfl rfl
      replace H := i_gfr (q := 154) H I_X8_text_151 G_8_16 cn_X8_text LY_71 rfl rfl
      replace H := i_iln (q := 155) H I_X8_text_154 rfl rfl
      have W := i_ia (q := 156) H I_X8_text_155 LY_74 rfl
      clear H
      obtain ⟨i_155, bi_155, ei_155, H⟩ := W
      have W := i_iast (q := 157) H I_X8_text_156 LY_72 rfl
      clear H
      obtain ⟨i_156, bi_156, ei_156, H⟩ := W
      replace H := i_inc (q := 160) H I_X8_text_157 rfl rfl rfl
      replace H := i_goto (q := 139) H I_X8_text_160 (by decide)
      have e : i = i_155 := zofn ei_155 (by omega) (by omega)
      subst e
      have e : i = i_156 := zofn ei_156 (by omega) (by omega)
      subst e
      replace H : zE none d zm_X8_text 139 [.ref 71, .int x, .int (Int32.ofNat (i + 1))] [] (zup m 72 i (m 74 i)) r h' := by
        rw [zofn_s] at H
        exact H
      obtain ⟨m1, g1, g3, g4⟩ := ih (i + 1) d r h' _ (by omega) H
      refine ⟨m1, g1, fun k h1 h2 => ?_, fun a b hab => ?_⟩
      · by_cases hi' : k = i
        · subst hi'
          rw [g4 _ _ (by omega), zup_s]
        · rw [g3 k (by omega) h2, zup_n (by omega)]
      · rw [g4 a b (by omega), zup_n (by omega)]
theorem tx_F {d : Nat} {m : zM} {r : Option Value} {h' : zHp} {f : Int32 × Nat} {x : Int32} (hF : rF m f) (H : zE none d zm_X8_text 52 [.ref 71, .int x, .null] [] m r h') : zE none d zm_X8_text 76 [.ref 71, .int x, .null] [] m r h' := by
  replace H := i_aln (q := 53) H I_X8_text_52 rfl rfl
  replace H := i_gfi (q := 56) H I_X8_text_53 G_8_63 cn_X8_text LY_71 rfl rfl
  have W := i_if_ne (t := 76) (q := 59) H I_X8_text_56 (by decide) rfl
  clear H
  rcases W with ⟨c_56, H⟩ | ⟨c_56, H⟩
  · skip
    exact H
  · skip
    replace H := i_aln (q := 60) H I_X8_text_59 rfl rfl
    replace H := i_gfi (q := 63) H I_X8_text_60 G_8_72 cn_X8_text LY_71 rfl rfl
    have W := i_if_eq (t := 76) (q := 66) H I_X8_text_63 (by decide) rfl
    clear H
    rcases W with ⟨c_63, H⟩ | ⟨c_63, H⟩
    · skip
      exact absurd c_56 (rF_0 hF)
    · skip
      exact absurd c_56 (rF_0 hF)
theorem tK_0 {t : Nat → Int32} {n p : Nat} (h : tK t n p = 0) (hp : p ≤ n) : tS t n p = n := by
  have := tS_le (t := t) hp
  unfold tK tKs at h
  split at h
  · omega
  · split at h
    · cases h
    · split at h
      · split at h <;> cases h
      · split at h <;> cases h
theorem tx_loop {n : Nat} : ∀ (k p l c : Nat) (g : Nat → Int32) (sT pT : Bool) (sb : Int32) (m : zM) (d : Nat) (r : Option Value) (h' : zHp), n - p < k → rE m n → rC m n p → rV m c g sT pT sb → zE none d zm_X8_text 52 [.ref 71, .int (Int32.ofNat l), .null] [] m r h' → ∃ m1 l1, zE none d zm_X8_text 76 [.ref 71, .int l1, .null] [] m1 r h' ∧ zfR m m1 ∧ ((∃ f, pTx (m 75) n k (c, g, sT, pT, sb) l p = .inl f ∧ rF m1 f) ∨ ∃ (σ : zPs) (l2 : Nat), l1 = Int32.ofNat l2 ∧ m1 71 10 = 0 ∧ m1 71 13 = Int32.ofNat n ∧ rV m1 σ.1 σ.2.1 σ.2.2.1 σ.2.2.2.1 σ.2.2.2.2 ∧ pTx (m 75) n k (c, g, sT, pT, sb) l p = if (σ.2.2.2.2 ||| σ.2.1 15) >>> (Int32.ofNat σ.1 &&& 31) = 0 then .inr (σ, l2) else .inl (6, n)) := by
  intro k
  induction k with
  | zero => intro p l c g sT pT sb m d r h' hk; omega
  | succ k ih =>
    intro p l c g sT pT sb m d r h' hk hE hC hV H
    replace H := i_aln (q := 53) H I_X8_text_52 rfl rfl
    replace H := i_gfi (q := 56) H I_X8_text_53 G_8_63 cn_X8_text LY_71 rfl rfl
    have W := i_if_ne (t := 76) (q := 59) H I_X8_text_56 (by decide) rfl
    clear H
    rcases W with ⟨c_56, H⟩ | ⟨c_56, H⟩
    · skip
      obtain ⟨hpn, hC | ⟨hk, hF⟩⟩ := hC
      · exact absurd hC.2.1 c_56
      · refine ⟨m, _, H, fun _ _ _ _ => rfl, Or.inl ⟨(1, tS (m 75) n p), ?_, hF⟩⟩
        rw [pTx, if_neg (by rw [hk]; decide), pLn, if_neg (by rw [hk]; decide), zft, zfk, if_pos hk]
    · skip
      replace H := i_aln (q := 60) H I_X8_text_59 rfl rfl
      replace H := i_gfi (q := 63) H I_X8_text_60 G_8_72 cn_X8_text LY_71 rfl rfl
      have W := i_if_eq (t := 76) (q := 66) H I_X8_text_63 (by decide) rfl
      clear H
      rcases W with ⟨c_63, H⟩ | ⟨c_63, H⟩
      · skip
        obtain ⟨hpn, hC | ⟨hk, hF⟩⟩ := hC
        · rw [hC.2.2.2.2.1] at c_63
          refine ⟨m, _, H, fun _ _ _ _ => rfl, Or.inr ⟨(c, g, sT, pT, sb), l, rfl, hC.2.1, ?_, hV, ?_⟩⟩
          · rw [hC.2.2.2.1, tK_0 c_63 hpn]
          · rw [pTx, if_pos c_63]
        · exact absurd c_56 (rF_0 hF)
      · skip
        replace H := i_aln (q := 67) H I_X8_text_66 rfl rfl
        have W := i_cv0 1 (q := 70) H I_X8_text_67 K_8_125 Zm_124 rfl rfl
        clear H
        obtain ⟨r1, h1, Hc, K1, K2⟩ := W
        have hC0 : rC0 m n p := by
          rcases hC.2 with w | w
          · exact w
          · exact absurd c_56 (rF_0 w.2)
        obtain ⟨M_67, e1, e2, F_67⟩ := t_X8_readLine (n := n) (p := p) hE hC.1 hC0 hV Hc
        have H := K2 _ e1 e2
        clear e1 e2 Hc K1 K2
        replace H := i_inc (q := 73) H I_X8_text_70 rfl rfl rfl
        replace H := i_goto (q := 52) H I_X8_text_73 (by decide)
        obtain ⟨g1, g2⟩ := F_67
        have e5 : M_67 75 = m 75 := zfR_5 g1
        replace H : zE none d zm_X8_text 52 [.ref 71, .int (Int32.ofNat (l + 1)), .null] [] M_67 r h' := by
          rw [zofn_s] at H
          exact H
        have hk0 : ¬ tK (m 75) n p = 0 := by
          rw [← hC0.2.2.2.2.1]
          exact c_63
        cases hx : pLn (m 75) n (c, g, sT, pT, sb) p with
        | inl f =>
          rw [hx] at g2
          exact ⟨M_67, _, tx_F g2 H, g1, Or.inl ⟨f, by rw [pTx, if_neg hk0, hx], g2⟩⟩
        | inr q =>
          rw [hx] at g2
          have hok := pLn_ok hx
          obtain ⟨m1, l1, y1, y2, y3⟩ := ih q.2 (l + 1) q.1.1 q.1.2.1 q.1.2.2.1 q.1.2.2.2.1 q.1.2.2.2.2 M_67 d r h' (by have := hok.2 hC.1; omega) (rE_f hE g1) g2.2 g2.1 H
          refine ⟨m1, l1, y1, zfR_t g1 y2, ?_⟩
          rw [e5] at y3
          have e : pTx (m 75) n (k + 1) (c, g, sT, pT, sb) l p = pTx (m 75) n k q.1 (l + 1) q.2 := by rw [pTx, if_neg hk0, hx]
          rw [e]
          exact y3
/-- what the reference holds behind text() -/
def rT (m m1 : zM) (r : Option Value) (x : zPr) : Prop := match x with
  | .inl f => r = some (.int (-10 - Int32.ofNat f.2)) ∧ m1 71 9 = f.1 ∧ ∀ a b, ¬ a = 74 → ¬ (a = 71 ∧ ((4 ≤ b ∧ b ≤ 6) ∨ (8 ≤ b ∧ b ≤ 15))) → m1 a b = m a b
  | .inr q => r = some (.int (Int32.ofNat q.2)) ∧ m1 71 9 = 0 ∧ m1 71 2 = Int32.ofNat q.1.1 ∧ q.1.1 ≤ 5 ∧ (∀ k, k < 27 → m1 72 k = q.1.2.1 k) ∧ m1 71 23 = 0 ∧ m1 82 0 = 0 ∧ m1 82 1 = 0 ∧ ∀ a b, ¬ a = 74 → ¬ (a = 72 ∧ b < 27) → ¬ a = 82 → ¬ (a = 71 ∧ (b = 2 ∨ (4 ≤ b ∧ b ≤ 6) ∨ (8 ≤ b ∧ b ≤ 15) ∨ b = 23)) → m1 a b = m a b
theorem tx_109F {d : Nat} {m : zM} {r : Option Value} {h' : zHp} {f : Int32 × Nat} {x : Int32} (hF : rF m f) (H : zE none d zm_X8_text 109 [.ref 71, .int x, .null] [] m r h') : ∃ m1, r = some (.int (-10 - Int32.ofNat f.2)) ∧ h' = zhp m1 ∧ m1 71 8 = 0 ∧ m1 71 9 = f.1 ∧ ∀ a b, ¬ (a = 71 ∧ b = 8) → ¬ (a = 71 ∧ b = 9) → m1 a b = m a b := by
  replace H := i_aln (q := 110) H I_X8_text_109 rfl rfl
  replace H := i_icst (x := 0) (q := 111) H I_X8_text_110 (by decide) rfl
  replace H := i_pf (q := 114) H I_X8_text_111 G_8_59 cn_X8_text LY_71 rfl rfl
  replace H := i_aln (q := 115) H I_X8_text_114 rfl rfl
  replace H := i_aln (q := 116) H I_X8_text_115 rfl rfl
  replace H := i_gfi (q := 119) H I_X8_text_116 G_8_63 cn_X8_text LY_71 rfl rfl
  replace H := i_pf (q := 122) H I_X8_text_119 G_8_128 cn_X8_text LY_71 rfl rfl
  replace H := i_aln (q := 123) H I_X8_text_122 rfl rfl
  replace H := i_gfi (q := 126) H I_X8_text_123 G_8_63 cn_X8_text LY_71 rfl rfl
  have W := i_if_le (t := 137) (q := 129) H I_X8_text_126 (by decide) rfl
  clear H
  rcases W with ⟨c_126, H⟩ | ⟨c_126, H⟩
  · skip
    exfalso
    rw [zup_n (by omega), zup_n (by omega), hF.1] at c_126
    exact c_126 hF.2.2
  · skip
    replace H := i_bip (x := (-10)) (q := 131) H I_X8_text_129 (by decide) rfl
    replace H := i_aln (q := 132) H I_X8_text_131 rfl rfl
    replace H := i_gfi (q := 135) H I_X8_text_132 G_8_69 cn_X8_text LY_71 rfl rfl
    replace H := i_isub (q := 136) H I_X8_text_135 rfl
    obtain ⟨hr, hh⟩ := i_ir H I_X8_text_136
    have q10 : zup m 71 8 0 71 10 = f.1 := by rw [zup_n (by omega)]; exact hF.1
    refine ⟨_, hr.trans ?_, hh, by rw [zup_n (by omega), zup_s], by rw [zup_s, q10], fun a b x y => by rw [zup_n (by omega), zup_n (by omega)]⟩
    rw [zup_n (by omega), zup_n (by omega), hF.2.1]
theorem tx_109 {d : Nat} {m : zM} {r : Option Value} {h' : zHp} {x : Int32} (h0 : m 71 10 = 0) (H : zE none d zm_X8_text 109 [.ref 71, .int x, .null] [] m r h') : ∃ m1, r = some (.int x) ∧ h' = zhp m1 ∧ m1 71 8 = 0 ∧ m1 71 9 = 0 ∧ m1 71 2 = m 71 4 ∧ (∀ k, k < 27 → m1 72 k = m 74 k) ∧ m1 71 23 = 0 ∧ m1 82 0 = 0 ∧ m1 82 1 = 0 ∧ ∀ a b, ¬ (a = 72 ∧ b < 27) → ¬ a = 82 → ¬ (a = 71 ∧ (b = 8 ∨ b = 9)) → ¬ (a = 71 ∧ (b = 2 ∨ b = 23)) → m1 a b = m a b := by
  replace H := i_aln (q := 110) H I_X8_text_109 rfl rfl
  replace H := i_icst (x := 0) (q := 111) H I_X8_text_110 (by decide) rfl
  replace H := i_pf (q := 114) H I_X8_text_111 G_8_59 cn_X8_text LY_71 rfl rfl
  replace H := i_aln (q := 115) H I_X8_text_114 rfl rfl
  replace H := i_aln (q := 116) H I_X8_text_115 rfl rfl
  replace H := i_gfi (q := 119) H I_X8_text_116 G_8_63 cn_X8_text LY_71 rfl rfl
  replace H := i_pf (q := 122) H I_X8_text_119 G_8_128 cn_X8_text LY_71 rfl rfl
  replace H := i_aln (q := 123) H I_X8_text_122 rfl rfl
  replace H := i_gfi (q := 126) H I_X8_text_123 G_8_63 cn_X8_text LY_71 rfl rfl
  have W := i_if_le (t := 137) (q := 129) H I_X8_text_126 (by decide) rfl
  clear H
  rcases W with ⟨c_126, H⟩ | ⟨c_126, H⟩
  · skip
    replace H := i_icst (x := 0) (q := 138) H I_X8_text_137 (by decide) rfl
    replace H := i_isn (q := 139) H I_X8_text_138 rfl rfl
    obtain ⟨m2, H, g3, g4⟩ := tc_loop 27 0 d r h' _ rfl H
    replace H := i_aln (q := 164) H I_X8_text_163 rfl rfl
    replace H := i_aln (q := 165) H I_X8_text_164 rfl rfl
    replace H := i_gfi (q := 168) H I_X8_text_165 G_8_107 cn_X8_text LY_71 rfl rfl
    replace H := i_pf (q := 171) H I_X8_text_168 G_8_131 cn_X8_text LY_71 rfl rfl
    replace H := i_aln (q := 172) H I_X8_text_171 rfl rfl
    replace H := i_icst (x := 0) (q := 173) H I_X8_text_172 (by decide) rfl
    replace H := i_pf (q := 176) H I_X8_text_173 G_8_134 cn_X8_text LY_71 rfl rfl
    replace H := i_aln (q := 177) H I_X8_text_176 rfl rfl
    replace H := i_gfr (q := 180) H I_X8_text_177 G_8_41 cn_X8_text LY_71 rfl rfl
    replace H := i_icst (x := 0) (q := 181) H I_X8_text_180 (by decide) rfl
    replace H := i_icst (x := 0) (q := 182) H I_X8_text_181 (by decide) rfl
    have W := i_bast (q := 183) H I_X8_text_182 LY_82 rfl
    clear H
    obtain ⟨i_182, bi_182, ei_182, H⟩ := W
    replace H := i_aln (q := 184) H I_X8_text_183 rfl rfl
    replace H := i_gfr (q := 187) H I_X8_text_184 G_8_41 cn_X8_text LY_71 rfl rfl
    replace H := i_icst (x := 1) (q := 188) H I_X8_text_187 (by decide) rfl
    replace H := i_icst (x := 0) (q := 189) H I_X8_text_188 (by decide) rfl
    have W := i_bast (q := 190) H I_X8_text_189 LY_82 rfl
    clear H
    obtain ⟨i_189, bi_189, ei_189, H⟩ := W
    replace H := i_iln (q := 191) H I_X8_text_190 rfl rfl
    obtain ⟨hr, hh⟩ := i_ir H I_X8_text_191
    have i1 : i_182 = 0 := (zofn (i := 0) ei_182 (by decide) (by omega)).symm
    subst i1
    have i2 : i_189 = 1 := (zofn (i := 1) ei_189 (by decide) (by omega)).symm
    subst i2
    rw [z_nar0] at hh
    refine ⟨_, hr, hh, ?_, ?_, ?_, fun k hk => ?_, ?_, ?_, ?_, fun a b h1 h2 h3 h4 => ?_⟩
    · rw [zup_n (by omega), zup_n (by omega), zup_n (by omega), zup_n (by omega), g4 _ _ (by omega), zup_n (by omega), zup_s]
    · rw [zup_n (by omega), zup_n (by omega), zup_n (by omega), zup_n (by omega), g4 _ _ (by omega), zup_s, zup_n (by omega), h0]
    · rw [zup_n (by omega), zup_n (by omega), zup_n (by omega), zup_s, g4 _ _ (by omega), zup_n (by omega), zup_n (by omega)]
    · rw [zup_n (by omega), zup_n (by omega), zup_n (by omega), zup_n (by omega), g3 k (by omega) hk, zup_n (by omega), zup_n (by omega)]
    · rw [zup_n (by omega), zup_n (by omega), zup_s]
    · rw [zup_n (by omega), zup_s]
    · rw [zup_s]
    · rw [zup_n (by omega), zup_n (by omega), zup_n (by omega), zup_n (by omega), g4 _ _ (by omega), zup_n (by omega), zup_n (by omega)]
  · skip
    replace H := i_bip (x := (-10)) (q := 131) H I_X8_text_129 (by decide) rfl
    replace H := i_aln (q := 132) H I_X8_text_131 rfl rfl
    replace H := i_gfi (q := 135) H I_X8_text_132 G_8_69 cn_X8_text LY_71 rfl rfl
    replace H := i_isub (q := 136) H I_X8_text_135 rfl
    obtain ⟨hr, hh⟩ := i_ir H I_X8_text_136
    exfalso
    rw [zup_n (by omega), zup_n (by omega), h0] at c_126
    exact absurd c_126 (by decide)
theorem tx_76F {d : Nat} {m : zM} {r : Option Value} {h' : zHp} {f : Int32 × Nat} {x : Int32} (hF : rF m f) (H : zE none d zm_X8_text 76 [.ref 71, .int x, .null] [] m r h') : zE none d zm_X8_text 109 [.ref 71, .int x, .null] [] m r h' := by
  replace H := i_aln (q := 77) H I_X8_text_76 rfl rfl
  replace H := i_gfi (q := 80) H I_X8_text_77 G_8_63 cn_X8_text LY_71 rfl rfl
  have W := i_if_ne (t := 109) (q := 83) H I_X8_text_80 (by decide) rfl
  clear H
  rcases W with ⟨c_80, H⟩ | ⟨c_80, H⟩
  · skip
    exact H
  · exact absurd c_80 (rF_0 hF)
theorem tx_76 {d : Nat} {m : zM} {r : Option Value} {h' : zHp} {n : Nat} {x : Int32} {σ : zPs} (h0 : m 71 10 = 0) (h13 : m 71 13 = Int32.ofNat n) (hV : rV m σ.1 σ.2.1 σ.2.2.1 σ.2.2.2.1 σ.2.2.2.2) (H : zE none d zm_X8_text 76 [.ref 71, .int x, .null] [] m r h') : ((σ.2.2.2.2 ||| σ.2.1 15) >>> (Int32.ofNat σ.1 &&& 31) = 0 ∧ zE none d zm_X8_text 109 [.ref 71, .int x, .null] [] m r h') ∨ (¬ (σ.2.2.2.2 ||| σ.2.1 15) >>> (Int32.ofNat σ.1 &&& 31) = 0 ∧ ∃ m1, zE none d zm_X8_text 109 [.ref 71, .int x, .null] [] m1 r h' ∧ rF m1 (6, n) ∧ zfR m m1) := by
  replace H := i_aln (q := 77) H I_X8_text_76 rfl rfl
  replace H := i_gfi (q := 80) H I_X8_text_77 G_8_63 cn_X8_text LY_71 rfl rfl
  have W := i_if_ne (t := 109) (q := 83) H I_X8_text_80 (by decide) rfl
  clear H
  rcases W with ⟨c_80, H⟩ | ⟨c_80, H⟩
  · exact absurd h0 c_80
  · skip
    replace H := i_aln (q := 84) H I_X8_text_83 rfl rfl
    replace H := i_gfi (q := 87) H I_X8_text_84 G_8_104 cn_X8_text LY_71 rfl rfl
    replace H := i_aln (q := 88) H I_X8_text_87 rfl rfl
    replace H := i_gfr (q := 91) H I_X8_text_88 G_8_16 cn_X8_text LY_71 rfl rfl
    replace H := i_bip (x := 15) (q := 93) H I_X8_text_91 (by decide) rfl
    have W := i_ia (q := 94) H I_X8_text_93 LY_74 rfl
    clear H
    obtain ⟨i_93, bi_93, ei_93, H⟩ := W
    replace H := i_ior (q := 95) H I_X8_text_94 rfl
    replace H := i_aln (q := 96) H I_X8_text_95 rfl rfl
    replace H := i_gfi (q := 99) H I_X8_text_96 G_8_107 cn_X8_text LY_71 rfl rfl
    replace H := i_ishr (q := 100) H I_X8_text_99 rfl
    have W := i_if_eq (t := 109) (q := 103) H I_X8_text_100 (by decide) rfl
    clear H
    rcases W with ⟨c_100, H⟩ | ⟨c_100, H⟩
    · skip
      have i1 : i_93 = 15 := (zofn (i := 15) ei_93 (by decide) (by omega)).symm
      subst i1
      rw [hV.2.2.1 15 (by omega), hV.1, hV.2.2.2.2.1] at c_100
      exact Or.inl ⟨c_100, H⟩
    · skip
      replace H := i_aln (q := 104) H I_X8_text_103 rfl rfl
      replace H := i_bip (x := 6) (q := 106) H I_X8_text_104 (by decide) rfl
      have W := i_cv1 0 (q := 109) H I_X8_text_106 K_8_93 Zm_118 rfl rfl
      clear H
      obtain ⟨r1, h1, Hc, K1, K2⟩ := W
      obtain ⟨e1, e2⟩ := t_fails0 h0 Hc
      have H := K2 _ e1 e2
      clear e1 e2 Hc K1 K2
      have i1 : i_93 = 15 := (zofn (i := 15) ei_93 (by decide) (by omega)).symm
      subst i1
      rw [hV.2.2.1 15 (by omega), hV.1, hV.2.2.2.2.1] at c_100
      exact Or.inr ⟨c_100, _, H, ⟨by rw [zup_n (by omega), zup_s], by rw [zup_s, h13], (show (0 : Int32) < 6 by decide)⟩, fun a b x y => by rw [zup_n (by omega), zup_n (by omega)]⟩
theorem t_X8_text {d : Nat} {m : zM} {r : Option Value} {h' : zHp} {n : Nat} (hE : rE m n) (H : zE none d zm_X8_text 0 [.ref 71, .null, .null] [] m r h') : ∃ m1, h' = zhp m1 ∧ m1 71 8 = 0 ∧ rT m m1 r (pTx (m 75) n 161 zP0 0 0) := by
  replace H := i_aln (q := 1) H I_X8_text_0 rfl rfl
  replace H := i_icst (x := 0) (q := 2) H I_X8_text_1 (by decide) rfl
  replace H := i_pf (q := 5) H I_X8_text_2 G_8_63 cn_X8_text LY_71 rfl rfl
  replace H := i_aln (q := 6) H I_X8_text_5 rfl rfl
  replace H := i_icst (x := 0) (q := 7) H I_X8_text_6 (by decide) rfl
  replace H := i_pf (q := 10) H I_X8_text_7 G_8_75 cn_X8_text LY_71 rfl rfl
  replace H := i_aln (q := 11) H I_X8_text_10 rfl rfl
  replace H := i_icst (x := 0) (q := 12) H I_X8_text_11 (by decide) rfl
  replace H := i_pf (q := 15) H I_X8_text_12 G_8_107 cn_X8_text LY_71 rfl rfl
  replace H := i_aln (q := 16) H I_X8_text_15 rfl rfl
  replace H := i_icst (x := 0) (q := 17) H I_X8_text_16 (by decide) rfl
  replace H := i_pf (q := 20) H I_X8_text_17 G_8_119 cn_X8_text LY_71 rfl rfl
  replace H := i_aln (q := 21) H I_X8_text_20 rfl rfl
  replace H := i_icst (x := 0) (q := 22) H I_X8_text_21 (by decide) rfl
  replace H := i_pf (q := 25) H I_X8_text_22 G_8_104 cn_X8_text LY_71 rfl rfl
  replace H := i_icst (x := 0) (q := 26) H I_X8_text_25 (by decide) rfl
  replace H := i_isn (q := 27) H I_X8_text_26 rfl rfl
  replace H := i_icst (x := 0) (q := 28) H I_X8_text_27 (by decide) rfl
  replace H := i_isn (q := 29) H I_X8_text_28 rfl rfl
  obtain ⟨m2, H, z3, z4⟩ := tz_loop 27 0 d r h' _ rfl H
  have y10 : m2 71 10 = 0 := by rw [z4 _ _ (by omega), zup_n (by omega), zup_n (by omega), zup_n (by omega), zup_n (by omega), zup_s]
  have y12 : m2 71 12 = Int32.ofNat 0 := by rw [z4 _ _ (by omega), zup_n (by omega), zup_n (by omega), zup_n (by omega), zup_s]; rfl
  have yR : zfR m m2 := fun a b x y => by rw [z4 _ _ (by omega), zup_n (by omega), zup_n (by omega), zup_n (by omega), zup_n (by omega), zup_n (by omega)]
  have y5 : m2 75 = m 75 := zfR_5 yR
  have yV : rV m2 0 (fun _ => 0) false false 0 := by
    refine ⟨?_, by omega, fun k hk => z3 k (by omega) hk, ⟨0, by omega, ?_, by decide, by decide⟩, ?_, 0, by omega, rfl, fun _ => rfl⟩
    · rw [z4 _ _ (by omega), zup_n (by omega), zup_n (by omega), zup_s]; rfl
    · rw [z4 _ _ (by omega), zup_n (by omega), zup_s]; rfl
    · rw [z4 _ _ (by omega), zup_s]
  replace H := i_aln (q := 49) H I_X8_text_48 rfl rfl
  have W := i_cv0 1 (q := 52) H I_X8_text_49 K_8_97 Zm_120 rfl rfl
  clear H
  obtain ⟨r1, h1, Hc, K1, K2⟩ := W
  obtain ⟨M_49, e1, e2, F_49⟩ := t_step1 (n := n) (p := 0) (rE_f hE yR) y10 y12 (by omega) Hc
  have H := K2 _ e1 e2
  clear e1 e2 Hc K1 K2
  obtain ⟨u1, u2⟩ := F_49
  have uR := zfR_t yR (zfR_g u2)
  have e5 : M_49 75 = m 75 := zfR_5 uR
  obtain ⟨m3, l1, H, v2, v3⟩ := tx_loop (n := n) 161 0 0 0 (fun _ => 0) false false 0 M_49 d r h' (by have := hE.2.1; omega) (rE_f hE uR) u1 (rV_g yV u2) H
  rw [e5] at v3
  have vR := zfR_t uR v2
  rcases v3 with ⟨f, w1, w2⟩ | ⟨σ, l2, w1, w2, w3, w4, w5⟩
  · obtain ⟨m4, s1, s2, s3, s4, s5⟩ := tx_109F w2 (tx_76F w2 H)
    refine ⟨m4, s2, s3, ?_⟩
    rw [show pTx (m 75) n 161 zP0 0 0 = .inl f from w1]
    exact ⟨s1, s4, fun a b x y => by rw [s5 a b (by omega) (by omega), vR a b x (by omega)]⟩
  · rcases tx_76 w2 w3 w4 H with ⟨c1, H⟩ | ⟨c1, m4, H, c2, c3⟩
    · rw [if_pos c1] at w5
      obtain ⟨m5, s1, s2, s3, s4, s5, s6, s7, s8, s9, s10⟩ := tx_109 w2 H
      refine ⟨m5, s2, s3, ?_⟩
      rw [show pTx (m 75) n 161 zP0 0 0 = .inr (σ, l2) from w5]
      exact ⟨by rw [s1, w1], s4, by rw [s5]; exact w4.1, w4.2.1, fun k hk => by rw [s6 k hk]; exact w4.2.2.1 k hk, s7, s8, s9, fun a b x1 x2 x3 x4 => by rw [s10 a b x2 x3 (by omega) (by omega), vR a b x1 (by omega)]⟩
    · rw [if_neg c1] at w5
      obtain ⟨m5, s1, s2, s3, s4, s5⟩ := tx_109F c2 H
      refine ⟨m5, s2, s3, ?_⟩
      rw [show pTx (m 75) n 161 zP0 0 0 = .inl (6, n) from w5]
      exact ⟨s1, s4, fun a b x y => by rw [s5 a b (by omega) (by omega), c3 a b x (by omega), vR a b x (by omega)]⟩
