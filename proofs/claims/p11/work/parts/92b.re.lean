/-! read leaves slack and plan alone; the relation RE -/
theorem It_X8_read : zm_X8_read.2.2.2.2.2 = zt_X8_read := by
  unfold zm_X8_read
  rfl
theorem I_X8_read_0 : zin zm_X8_read.2.2.2.2.2 0 = some (.iload_n 1, 1) := by rw [It_X8_read]; rfl
theorem I_X8_read_1 : zin zm_X8_read.2.2.2.2.2 1 = some (.i2l, 1) := by rw [It_X8_read]; rfl
theorem I_X8_read_2 : zin zm_X8_read.2.2.2.2.2 2 = some (.lconst 0, 1) := by rw [It_X8_read]; rfl
theorem I_X8_read_3 : zin zm_X8_read.2.2.2.2.2 3 = some (.ldc2_w 155, 3) := by rw [It_X8_read]; rfl
theorem I_X8_read_6 : zin zm_X8_read.2.2.2.2.2 6 = some (.invokestatic 55, 3) := by rw [It_X8_read]; rfl
theorem I_X8_read_9 : zin zm_X8_read.2.2.2.2.2 9 = some (.ifCond .eq 28, 3) := by rw [It_X8_read]; rfl
theorem I_X8_read_12 : zin zm_X8_read.2.2.2.2.2 12 = some (.iload_n 2, 1) := by rw [It_X8_read]; rfl
theorem I_X8_read_13 : zin zm_X8_read.2.2.2.2.2 13 = some (.i2l, 1) := by rw [It_X8_read]; rfl
theorem I_X8_read_14 : zin zm_X8_read.2.2.2.2.2 14 = some (.lconst 0, 1) := by rw [It_X8_read]; rfl
theorem I_X8_read_15 : zin zm_X8_read.2.2.2.2.2 15 = some (.ldc2_w 157, 3) := by rw [It_X8_read]; rfl
theorem I_X8_read_18 : zin zm_X8_read.2.2.2.2.2 18 = some (.invokestatic 55, 3) := by rw [It_X8_read]; rfl
theorem I_X8_read_21 : zin zm_X8_read.2.2.2.2.2 21 = some (.ifCond .eq 16, 3) := by rw [It_X8_read]; rfl
theorem I_X8_read_24 : zin zm_X8_read.2.2.2.2.2 24 = some (.iload 4, 2) := by rw [It_X8_read]; rfl
theorem I_X8_read_26 : zin zm_X8_read.2.2.2.2.2 26 = some (.i2l, 1) := by rw [It_X8_read]; rfl
theorem I_X8_read_27 : zin zm_X8_read.2.2.2.2.2 27 = some (.lconst 0, 1) := by rw [It_X8_read]; rfl
theorem I_X8_read_28 : zin zm_X8_read.2.2.2.2.2 28 = some (.ldc2_w 242, 3) := by rw [It_X8_read]; rfl
theorem I_X8_read_31 : zin zm_X8_read.2.2.2.2.2 31 = some (.invokestatic 55, 3) := by rw [It_X8_read]; rfl
theorem I_X8_read_34 : zin zm_X8_read.2.2.2.2.2 34 = some (.ifCond .ne 5, 3) := by rw [It_X8_read]; rfl
theorem I_X8_read_37 : zin zm_X8_read.2.2.2.2.2 37 = some (.iconst (-1), 1) := by rw [It_X8_read]; rfl
theorem I_X8_read_38 : zin zm_X8_read.2.2.2.2.2 38 = some (.ireturn, 1) := by rw [It_X8_read]; rfl
theorem I_X8_read_39 : zin zm_X8_read.2.2.2.2.2 39 = some (.aload_n 0, 1) := by rw [It_X8_read]; rfl
theorem I_X8_read_40 : zin zm_X8_read.2.2.2.2.2 40 = some (.iconst 0, 1) := by rw [It_X8_read]; rfl
theorem I_X8_read_41 : zin zm_X8_read.2.2.2.2.2 41 = some (.bipush 81, 2) := by rw [It_X8_read]; rfl
theorem I_X8_read_43 : zin zm_X8_read.2.2.2.2.2 43 = some (.invokevirtual 188, 3) := by rw [It_X8_read]; rfl
theorem I_X8_read_46 : zin zm_X8_read.2.2.2.2.2 46 = some (.iconst 0, 1) := by rw [It_X8_read]; rfl
theorem I_X8_read_47 : zin zm_X8_read.2.2.2.2.2 47 = some (.istore 5, 2) := by rw [It_X8_read]; rfl
theorem I_X8_read_49 : zin zm_X8_read.2.2.2.2.2 49 = some (.iconst 0, 1) := by rw [It_X8_read]; rfl
theorem I_X8_read_50 : zin zm_X8_read.2.2.2.2.2 50 = some (.istore 6, 2) := by rw [It_X8_read]; rfl
theorem I_X8_read_52 : zin zm_X8_read.2.2.2.2.2 52 = some (.iconst 0, 1) := by rw [It_X8_read]; rfl
theorem I_X8_read_53 : zin zm_X8_read.2.2.2.2.2 53 = some (.istore 7, 2) := by rw [It_X8_read]; rfl
theorem I_X8_read_55 : zin zm_X8_read.2.2.2.2.2 55 = some (.iload 7, 2) := by rw [It_X8_read]; rfl
theorem I_X8_read_57 : zin zm_X8_read.2.2.2.2.2 57 = some (.iload 4, 2) := by rw [It_X8_read]; rfl
theorem I_X8_read_59 : zin zm_X8_read.2.2.2.2.2 59 = some (.if_icmp .ge 115, 3) := by rw [It_X8_read]; rfl
theorem I_X8_read_62 : zin zm_X8_read.2.2.2.2.2 62 = some (.iload 5, 2) := by rw [It_X8_read]; rfl
theorem I_X8_read_64 : zin zm_X8_read.2.2.2.2.2 64 = some (.ifCond .ne 110, 3) := by rw [It_X8_read]; rfl
theorem I_X8_read_67 : zin zm_X8_read.2.2.2.2.2 67 = some (.aload_n 0, 1) := by rw [It_X8_read]; rfl
theorem I_X8_read_68 : zin zm_X8_read.2.2.2.2.2 68 = some (.getfield 44, 3) := by rw [It_X8_read]; rfl
theorem I_X8_read_71 : zin zm_X8_read.2.2.2.2.2 71 = some (.iload_n 1, 1) := by rw [It_X8_read]; rfl
theorem I_X8_read_72 : zin zm_X8_read.2.2.2.2.2 72 = some (.iaload, 1) := by rw [It_X8_read]; rfl
theorem I_X8_read_73 : zin zm_X8_read.2.2.2.2.2 73 = some (.bipush (-4), 2) := by rw [It_X8_read]; rfl
theorem I_X8_read_75 : zin zm_X8_read.2.2.2.2.2 75 = some (.if_icmp .ne 7, 3) := by rw [It_X8_read]; rfl
theorem I_X8_read_78 : zin zm_X8_read.2.2.2.2.2 78 = some (.iconst 1, 1) := by rw [It_X8_read]; rfl
theorem I_X8_read_79 : zin zm_X8_read.2.2.2.2.2 79 = some (.goto 44, 3) := by rw [It_X8_read]; rfl
theorem I_X8_read_82 : zin zm_X8_read.2.2.2.2.2 82 = some (.aload_n 0, 1) := by rw [It_X8_read]; rfl
theorem I_X8_read_83 : zin zm_X8_read.2.2.2.2.2 83 = some (.getfield 44, 3) := by rw [It_X8_read]; rfl
theorem I_X8_read_86 : zin zm_X8_read.2.2.2.2.2 86 = some (.iload_n 1, 1) := by rw [It_X8_read]; rfl
theorem I_X8_read_87 : zin zm_X8_read.2.2.2.2.2 87 = some (.iaload, 1) := by rw [It_X8_read]; rfl
theorem I_X8_read_88 : zin zm_X8_read.2.2.2.2.2 88 = some (.iload_n 2, 1) := by rw [It_X8_read]; rfl
theorem I_X8_read_89 : zin zm_X8_read.2.2.2.2.2 89 = some (.if_icmp .eq 7, 3) := by rw [It_X8_read]; rfl
theorem I_X8_read_92 : zin zm_X8_read.2.2.2.2.2 92 = some (.iconst 3, 1) := by rw [It_X8_read]; rfl
theorem I_X8_read_93 : zin zm_X8_read.2.2.2.2.2 93 = some (.goto 30, 3) := by rw [It_X8_read]; rfl
theorem I_X8_read_96 : zin zm_X8_read.2.2.2.2.2 96 = some (.iload_n 3, 1) := by rw [It_X8_read]; rfl
theorem I_X8_read_97 : zin zm_X8_read.2.2.2.2.2 97 = some (.i2l, 1) := by rw [It_X8_read]; rfl
theorem I_X8_read_98 : zin zm_X8_read.2.2.2.2.2 98 = some (.iload 7, 2) := by rw [It_X8_read]; rfl
theorem I_X8_read_100 : zin zm_X8_read.2.2.2.2.2 100 = some (.i2l, 1) := by rw [It_X8_read]; rfl
theorem I_X8_read_101 : zin zm_X8_read.2.2.2.2.2 101 = some (.ladd, 1) := by rw [It_X8_read]; rfl
theorem I_X8_read_102 : zin zm_X8_read.2.2.2.2.2 102 = some (.lconst 0, 1) := by rw [It_X8_read]; rfl
theorem I_X8_read_103 : zin zm_X8_read.2.2.2.2.2 103 = some (.aload_n 0, 1) := by rw [It_X8_read]; rfl
theorem I_X8_read_104 : zin zm_X8_read.2.2.2.2.2 104 = some (.getfield 47, 3) := by rw [It_X8_read]; rfl
theorem I_X8_read_107 : zin zm_X8_read.2.2.2.2.2 107 = some (.iload_n 1, 1) := by rw [It_X8_read]; rfl
theorem I_X8_read_108 : zin zm_X8_read.2.2.2.2.2 108 = some (.iaload, 1) := by rw [It_X8_read]; rfl
theorem I_X8_read_109 : zin zm_X8_read.2.2.2.2.2 109 = some (.iconst 1, 1) := by rw [It_X8_read]; rfl
theorem I_X8_read_110 : zin zm_X8_read.2.2.2.2.2 110 = some (.isub, 1) := by rw [It_X8_read]; rfl
theorem I_X8_read_111 : zin zm_X8_read.2.2.2.2.2 111 = some (.i2l, 1) := by rw [It_X8_read]; rfl
theorem I_X8_read_112 : zin zm_X8_read.2.2.2.2.2 112 = some (.invokestatic 55, 3) := by rw [It_X8_read]; rfl
theorem I_X8_read_115 : zin zm_X8_read.2.2.2.2.2 115 = some (.ifCond .ne 7, 3) := by rw [It_X8_read]; rfl
theorem I_X8_read_118 : zin zm_X8_read.2.2.2.2.2 118 = some (.iconst 2, 1) := by rw [It_X8_read]; rfl
theorem I_X8_read_119 : zin zm_X8_read.2.2.2.2.2 119 = some (.goto 4, 3) := by rw [It_X8_read]; rfl
theorem I_X8_read_122 : zin zm_X8_read.2.2.2.2.2 122 = some (.iconst 0, 1) := by rw [It_X8_read]; rfl
theorem I_X8_read_123 : zin zm_X8_read.2.2.2.2.2 123 = some (.istore 5, 2) := by rw [It_X8_read]; rfl
theorem I_X8_read_125 : zin zm_X8_read.2.2.2.2.2 125 = some (.iload 5, 2) := by rw [It_X8_read]; rfl
theorem I_X8_read_127 : zin zm_X8_read.2.2.2.2.2 127 = some (.ifCond .ne 41, 3) := by rw [It_X8_read]; rfl
theorem I_X8_read_130 : zin zm_X8_read.2.2.2.2.2 130 = some (.aload_n 0, 1) := by rw [It_X8_read]; rfl
theorem I_X8_read_131 : zin zm_X8_read.2.2.2.2.2 131 = some (.aload_n 0, 1) := by rw [It_X8_read]; rfl
theorem I_X8_read_132 : zin zm_X8_read.2.2.2.2.2 132 = some (.getfield 50, 3) := by rw [It_X8_read]; rfl
theorem I_X8_read_135 : zin zm_X8_read.2.2.2.2.2 135 = some (.bipush 40, 2) := by rw [It_X8_read]; rfl
theorem I_X8_read_137 : zin zm_X8_read.2.2.2.2.2 137 = some (.iload_n 1, 1) := by rw [It_X8_read]; rfl
theorem I_X8_read_138 : zin zm_X8_read.2.2.2.2.2 138 = some (.imul, 1) := by rw [It_X8_read]; rfl
theorem I_X8_read_139 : zin zm_X8_read.2.2.2.2.2 139 = some (.iload_n 3, 1) := by rw [It_X8_read]; rfl
theorem I_X8_read_140 : zin zm_X8_read.2.2.2.2.2 140 = some (.iadd, 1) := by rw [It_X8_read]; rfl
theorem I_X8_read_141 : zin zm_X8_read.2.2.2.2.2 141 = some (.iload 7, 2) := by rw [It_X8_read]; rfl
theorem I_X8_read_143 : zin zm_X8_read.2.2.2.2.2 143 = some (.iadd, 1) := by rw [It_X8_read]; rfl
theorem I_X8_read_144 : zin zm_X8_read.2.2.2.2.2 144 = some (.iaload, 1) := by rw [It_X8_read]; rfl
theorem I_X8_read_145 : zin zm_X8_read.2.2.2.2.2 145 = some (.invokevirtual 173, 3) := by rw [It_X8_read]; rfl
theorem I_X8_read_148 : zin zm_X8_read.2.2.2.2.2 148 = some (.iconst (-1), 1) := by rw [It_X8_read]; rfl
theorem I_X8_read_149 : zin zm_X8_read.2.2.2.2.2 149 = some (.if_icmp .ne 16, 3) := by rw [It_X8_read]; rfl
theorem I_X8_read_152 : zin zm_X8_read.2.2.2.2.2 152 = some (.aload_n 0, 1) := by rw [It_X8_read]; rfl
theorem I_X8_read_153 : zin zm_X8_read.2.2.2.2.2 153 = some (.bipush 81, 2) := by rw [It_X8_read]; rfl
theorem I_X8_read_155 : zin zm_X8_read.2.2.2.2.2 155 = some (.iconst 0, 1) := by rw [It_X8_read]; rfl
theorem I_X8_read_156 : zin zm_X8_read.2.2.2.2.2 156 = some (.invokevirtual 188, 3) := by rw [It_X8_read]; rfl
theorem I_X8_read_159 : zin zm_X8_read.2.2.2.2.2 159 = some (.bipush (-20), 2) := by rw [It_X8_read]; rfl
theorem I_X8_read_161 : zin zm_X8_read.2.2.2.2.2 161 = some (.iload 6, 2) := by rw [It_X8_read]; rfl
theorem I_X8_read_163 : zin zm_X8_read.2.2.2.2.2 163 = some (.isub, 1) := by rw [It_X8_read]; rfl
theorem I_X8_read_164 : zin zm_X8_read.2.2.2.2.2 164 = some (.ireturn, 1) := by rw [It_X8_read]; rfl
theorem I_X8_read_165 : zin zm_X8_read.2.2.2.2.2 165 = some (.iinc 6 1, 3) := by rw [It_X8_read]; rfl
theorem I_X8_read_168 : zin zm_X8_read.2.2.2.2.2 168 = some (.iinc 7 1, 3) := by rw [It_X8_read]; rfl
theorem I_X8_read_171 : zin zm_X8_read.2.2.2.2.2 171 = some (.goto (-116), 3) := by rw [It_X8_read]; rfl
theorem I_X8_read_174 : zin zm_X8_read.2.2.2.2.2 174 = some (.aload_n 0, 1) := by rw [It_X8_read]; rfl
theorem I_X8_read_175 : zin zm_X8_read.2.2.2.2.2 175 = some (.iload 5, 2) := by rw [It_X8_read]; rfl
theorem I_X8_read_177 : zin zm_X8_read.2.2.2.2.2 177 = some (.putfield 244, 3) := by rw [It_X8_read]; rfl
theorem I_X8_read_180 : zin zm_X8_read.2.2.2.2.2 180 = some (.iload 6, 2) := by rw [It_X8_read]; rfl
theorem I_X8_read_182 : zin zm_X8_read.2.2.2.2.2 182 = some (.ireturn, 1) := by rw [It_X8_read]; rfl
theorem G_8_44 : zlk zfls 8 44 = some (8, 27, 868) := rfl
theorem G_8_47 : zlk zfls 8 47 = some (8, 28, 869) := rfl
theorem G_8_50 : zlk zfls 8 50 = some (8, 29, 870) := rfl
theorem G_8_244 : zlk zfls 8 244 = some (8, 30, 871) := rfl
theorem LY_83 : zLY[83]? = some (Sum.inl 0, List.replicate 4 none) := rfl
theorem LY_84 : zLY[84]? = some (Sum.inl 0, List.replicate 4 none) := rfl
theorem LY_85 : zLY[85]? = some (Sum.inl 0, List.replicate 160 none) := rfl
theorem J_8_155 : zlk zcJs 8 155 = some (3, 1028) := rfl
theorem J_8_157 : zlk zcJs 8 157 = some (2, 1029) := rfl
theorem J_8_242 : zlk zcJs 8 242 = some (20, 1211) := rfl
theorem cl_X8_read : zm_X8_read.2.2.2.2.1 = 8 := by
  unfold zm_X8_read
  rfl
theorem cn_X8_read : zm_X8_read.2.2.2.2.1 ≠ 12 := by
  rw [cl_X8_read]
  decide
theorem cn2_X8_read : zm_X8_read.2.2.2.2.1 ≠ 2 := by
  rw [cl_X8_read]
  decide
theorem PG_0 {m : zM} {g : Nat → Int32} (h : PG m 0 g) {q : Nat} (hq : q < 27) : m 72 q = g q := by
  have h1 := h.2 q hq
  rw [Nat.zero_add] at h1
  exact h1
theorem rd_loop {c n : Nat} {k ln f : Int32} {g0 : Nat → Int32} (hn : n ≤ 20) : ∀ (j i : Nat) (b ca : Int32) (g : Nat → Int32) (d : Nat) (r : Option Value) (h' : zHp) (m : zM), i + j = n → PG m 0 g → PG m 81 g0 → gok g c → (∀ q, 15 ≤ q → ¬ q = 17 → g q = g0 q) → m 71 2 = Int32.ofNat c → zMk m → zE none d zm_X8_read 55 [.ref 71, .int k, .int ln, .int f, .int (Int32.ofNat n), .int b, .int ca, .int (Int32.ofNat i)] [] m r h' → ∃ m1, h' = zhp m1 ∧ ∀ q, 15 ≤ q → ¬ q = 17 → q < 27 → m1 72 q = g0 q := by
  intro j
  induction j with
  | zero =>
    intro i b ca g d r h' m hj hP hA hg hE hc hM H
    replace H := i_il (q := 57) H I_X8_read_55 rfl rfl
    replace H := i_il (q := 59) H I_X8_read_57 rfl rfl
    have W := i_ic_ge (t := 174) (q := 62) H I_X8_read_59 (by decide) rfl
    clear H
    rcases W with ⟨c_59, H⟩ | ⟨c_59, H⟩
    · skip
      replace H := i_aln (q := 175) H I_X8_read_174 rfl rfl
      replace H := i_il (q := 177) H I_X8_read_175 rfl rfl
      replace H := i_pf (q := 180) H I_X8_read_177 G_8_244 cn_X8_read LY_71 rfl rfl
      replace H := i_il (q := 182) H I_X8_read_180 rfl rfl
      obtain ⟨hr, hh⟩ := i_ir H I_X8_read_182
      exact ⟨_, hh, fun q h1 h2 h3 => by rw [zup_n (by omega), PG_0 hP h3]; exact hE q h1 h2⟩
    · skip
      replace H := i_il (q := 64) H I_X8_read_62 rfl rfl
      have W := i_if_ne (t := 174) (q := 67) H I_X8_read_64 (by decide) rfl
      clear H
      rcases W with ⟨c_64, H⟩ | ⟨c_64, H⟩
      · skip
        replace H := i_aln (q := 175) H I_X8_read_174 rfl rfl
        replace H := i_il (q := 177) H I_X8_read_175 rfl rfl
        replace H := i_pf (q := 180) H I_X8_read_177 G_8_244 cn_X8_read LY_71 rfl rfl
        replace H := i_il (q := 182) H I_X8_read_180 rfl rfl
        obtain ⟨hr, hh⟩ := i_ir H I_X8_read_182
        exact ⟨_, hh, fun q h1 h2 h3 => by rw [zup_n (by omega), PG_0 hP h3]; exact hE q h1 h2⟩
      · exfalso
        exact absurd ((zofn_lt (by omega) (by omega)).mp c_59) (by omega)
  | succ j ih =>
    intro i b ca g d r h' m hj hP hA hg hE hc hM H
    replace H := i_il (q := 57) H I_X8_read_55 rfl rfl
    replace H := i_il (q := 59) H I_X8_read_57 rfl rfl
    have W := i_ic_ge (t := 174) (q := 62) H I_X8_read_59 (by decide) rfl
    clear H
    rcases W with ⟨c_59, H⟩ | ⟨c_59, H⟩
    · exfalso
      exact c_59 ((zofn_lt (by omega) (by omega)).mpr (by omega))
    · skip
      replace H := i_il (q := 64) H I_X8_read_62 rfl rfl
      have W := i_if_ne (t := 174) (q := 67) H I_X8_read_64 (by decide) rfl
      clear H
      rcases W with ⟨c_64, H⟩ | ⟨c_64, H⟩
      · skip
        replace H := i_aln (q := 175) H I_X8_read_174 rfl rfl
        replace H := i_il (q := 177) H I_X8_read_175 rfl rfl
        replace H := i_pf (q := 180) H I_X8_read_177 G_8_244 cn_X8_read LY_71 rfl rfl
        replace H := i_il (q := 182) H I_X8_read_180 rfl rfl
        obtain ⟨hr, hh⟩ := i_ir H I_X8_read_182
        exact ⟨_, hh, fun q h1 h2 h3 => by rw [zup_n (by omega), PG_0 hP h3]; exact hE q h1 h2⟩
      · skip
        replace H := i_aln (q := 68) H I_X8_read_67 rfl rfl
        replace H := i_gfr (q := 71) H I_X8_read_68 G_8_44 cn_X8_read LY_71 rfl rfl
        replace H := i_iln (q := 72) H I_X8_read_71 rfl rfl
        have W := i_ia (q := 73) H I_X8_read_72 LY_83 rfl
        clear H
        obtain ⟨i_72, bi_72, ei_72, H⟩ := W
        replace H := i_bip (x := (-4)) (q := 75) H I_X8_read_73 (by decide) rfl
        have W := i_ic_ne (t := 82) (q := 78) H I_X8_read_75 (by decide) rfl
        clear H
        rcases W with ⟨c_75, H⟩ | ⟨c_75, H⟩
        · skip
          replace H := i_aln (q := 83) H I_X8_read_82 rfl rfl
          replace H := i_gfr (q := 86) H I_X8_read_83 G_8_44 cn_X8_read LY_71 rfl rfl
          replace H := i_iln (q := 87) H I_X8_read_86 rfl rfl
          have W := i_ia (q := 88) H I_X8_read_87 LY_83 rfl
          clear H
          obtain ⟨i_87, bi_87, ei_87, H⟩ := W
          replace H := i_iln (q := 89) H I_X8_read_88 rfl rfl
          have W := i_ic_eq (t := 96) (q := 92) H I_X8_read_89 (by decide) rfl
          clear H
          rcases W with ⟨c_89, H⟩ | ⟨c_89, H⟩
          · skip
            replace H := i_iln (q := 97) H I_X8_read_96 rfl rfl
            replace H := i_i2l (q := 98) H I_X8_read_97 rfl
            replace H := i_il (q := 100) H I_X8_read_98 rfl rfl
            replace H := i_i2l (q := 101) H I_X8_read_100 rfl
            replace H := i_ladd (q := 102) H I_X8_read_101 rfl
            replace H := i_lcst (x := 0) (q := 103) H I_X8_read_102 (by decide) rfl
            replace H := i_aln (q := 104) H I_X8_read_103 rfl rfl
            replace H := i_gfr (q := 107) H I_X8_read_104 G_8_47 cn_X8_read LY_71 rfl rfl
            replace H := i_iln (q := 108) H I_X8_read_107 rfl rfl
            have W := i_ia (q := 109) H I_X8_read_108 LY_84 rfl
            clear H
            obtain ⟨i_108, bi_108, ei_108, H⟩ := W
            replace H := i_icst (x := 1) (q := 110) H I_X8_read_109 (by decide) rfl
            replace H := i_isub (q := 111) H I_X8_read_110 rfl
            replace H := i_i2l (q := 112) H I_X8_read_111 rfl
            replace H := i_in (q := 115) H I_X8_read_112 K_8_55 rfl
            have W := i_if_ne (t := 122) (q := 118) H I_X8_read_115 (by decide) rfl
            clear H
            rcases W with ⟨c_115, H⟩ | ⟨c_115, H⟩
            · skip
              replace H := i_icst (x := 0) (q := 123) H I_X8_read_122 (by decide) rfl
              replace H := i_is (q := 125) H I_X8_read_123 rfl rfl
              replace H := i_il (q := 127) H I_X8_read_125 rfl rfl
              have W := i_if_ne (t := 168) (q := 130) H I_X8_read_127 (by decide) rfl
              clear H
              rcases W with ⟨c_127, H⟩ | ⟨c_127, H⟩
              · skip
                replace H := i_inc (q := 171) H I_X8_read_168 rfl rfl rfl
                replace H := i_goto (q := 55) H I_X8_read_171 (by decide)
                exact absurd rfl c_127
              · skip
                replace H := i_aln (q := 131) H I_X8_read_130 rfl rfl
                replace H := i_aln (q := 132) H I_X8_read_131 rfl rfl
                replace H := i_gfr (q := 135) H I_X8_read_132 G_8_50 cn_X8_read LY_71 rfl rfl
                replace H := i_bip (x := 40) (q := 137) H I_X8_read_135 (by decide) rfl
                replace H := i_iln (q := 138) H I_X8_read_137 rfl rfl
                replace H := i_imul (q := 139) H I_X8_read_138 rfl
                replace H := i_iln (q := 140) H I_X8_read_139 rfl rfl
                replace H := i_iadd (q := 141) H I_X8_read_140 rfl
                replace H := i_il (q := 143) H I_X8_read_141 rfl rfl
                replace H := i_iadd (q := 144) H I_X8_read_143 rfl
                have W := i_ia (q := 145) H I_X8_read_144 LY_85 rfl
                clear H
                obtain ⟨i_144, bi_144, ei_144, H⟩ := W
                have W := i_cv1 0 (q := 148) H I_X8_read_145 K_8_173 Zm_144 rfl rfl
                clear H
                obtain ⟨r1, h1, Hc, K1, K2⟩ := W
                obtain ⟨M_145, v_145, e1, e2, F_145⟩ := t_X8_turns hP hg hc hM Hc
                have H := K1 _ _ e1 e2
                clear e1 e2 Hc K1 K2
                obtain ⟨g1, P1, G1, E1, f1⟩ : ∃ g1, PG M_145 0 g1 ∧ gok g1 c ∧ (∀ q, 15 ≤ q → ¬ q = 17 → g1 q = g0 q) ∧ ∀ a b, ¬ (a = 72 ∧ b < 27) → M_145 a b = m a b := by
                  rcases F_145 with ⟨_, _, rfl⟩ | ⟨_, _, y1, y2⟩
                  · exact ⟨g, hP, hg, hE, fun _ _ _ => rfl⟩
                  · exact ⟨_, y1, gok_t hg, fun q h1 h2 => (gTry2_k hg.1 h1 h2).trans (hE q h1 h2), fun a b h => y2 a b (by omega)⟩
                replace H := i_icst (x := (-1)) (q := 149) H I_X8_read_148 (by decide) rfl
                have W := i_ic_ne (t := 165) (q := 152) H I_X8_read_149 (by decide) rfl
                clear H
                rcases W with ⟨c_149, H⟩ | ⟨c_149, H⟩
                · skip
                  replace H := i_inc (q := 168) H I_X8_read_165 rfl rfl rfl
                  replace H := i_inc (q := 171) H I_X8_read_168 rfl rfl rfl
                  replace H := i_goto (q := 55) H I_X8_read_171 (by decide)
                  replace H : zE none d zm_X8_read 55 [.ref 71, .int k, .int ln, .int f, .int (Int32.ofNat n), .int 0, .int (ca + 1), .int (Int32.ofNat (i + 1))] [] M_145 r h' := by
                    rw [← zofn_s]
                    exact H
                  exact ih (i + 1) 0 (ca + 1) g1 d r h' M_145 (by omega) P1 ⟨hA.1, fun j hj => (f1 _ _ (by omega)).trans (hA.2 j hj)⟩ G1 E1 ((f1 71 2 (by omega)).trans hc) ⟨(f1 73 0 (by omega)).trans hM.1, (f1 73 1 (by omega)).trans hM.2.1, (f1 73 2 (by omega)).trans hM.2.2.1, (f1 73 3 (by omega)).trans hM.2.2.2⟩ H
                · skip
                  replace H := i_aln (q := 153) H I_X8_read_152 rfl rfl
                  replace H := i_bip (x := 81) (q := 155) H I_X8_read_153 (by decide) rfl
                  replace H := i_icst (x := 0) (q := 156) H I_X8_read_155 (by decide) rfl
                  have W := i_cv2 1 (q := 159) H I_X8_read_156 K_8_188 Zm_147 rfl rfl
                  clear H
                  obtain ⟨r1, h1, Hc, K1, K2⟩ := W
                  obtain ⟨M_156, e1, e2, F_156⟩ := t_X8_copies (f := 81) (t := 0) rfl rfl (by omega) (by omega) (by omega) Hc
                  have H := K2 _ e1 e2
                  clear e1 e2 Hc K1 K2
                  replace H := i_bip (x := (-20)) (q := 161) H I_X8_read_159 (by decide) rfl
                  replace H := i_il (q := 163) H I_X8_read_161 rfl rfl
                  replace H := i_isub (q := 164) H I_X8_read_163 rfl
                  obtain ⟨hr, hh⟩ := i_ir H I_X8_read_164
                  exact ⟨_, hh, fun q h1 h2 h3 => by have h4 := F_156.1 q h3; rw [Nat.zero_add] at h4; rw [h4, f1 _ _ (by omega)]; exact hA.2 q h3⟩
            · skip
              replace H := i_icst (x := 2) (q := 119) H I_X8_read_118 (by decide) rfl
              replace H := i_goto (q := 123) H I_X8_read_119 (by decide)
              replace H := i_is (q := 125) H I_X8_read_123 rfl rfl
              replace H := i_il (q := 127) H I_X8_read_125 rfl rfl
              have W := i_if_ne (t := 168) (q := 130) H I_X8_read_127 (by decide) rfl
              clear H
              rcases W with ⟨c_127, H⟩ | ⟨c_127, H⟩
              · skip
                replace H := i_inc (q := 171) H I_X8_read_168 rfl rfl rfl
                replace H := i_goto (q := 55) H I_X8_read_171 (by decide)
                replace H : zE none d zm_X8_read 55 [.ref 71, .int k, .int ln, .int f, .int (Int32.ofNat n), .int 2, .int ca, .int (Int32.ofNat (i + 1))] [] m r h' := by
                  rw [← zofn_s]
                  exact H
                exact ih (i + 1) 2 ca g d r h' m (by omega) hP hA hg hE hc hM H
              · skip
                replace H := i_aln (q := 131) H I_X8_read_130 rfl rfl
                replace H := i_aln (q := 132) H I_X8_read_131 rfl rfl
                replace H := i_gfr (q := 135) H I_X8_read_132 G_8_50 cn_X8_read LY_71 rfl rfl
                replace H := i_bip (x := 40) (q := 137) H I_X8_read_135 (by decide) rfl
                replace H := i_iln (q := 138) H I_X8_read_137 rfl rfl
                replace H := i_imul (q := 139) H I_X8_read_138 rfl
                replace H := i_iln (q := 140) H I_X8_read_139 rfl rfl
                replace H := i_iadd (q := 141) H I_X8_read_140 rfl
                replace H := i_il (q := 143) H I_X8_read_141 rfl rfl
                replace H := i_iadd (q := 144) H I_X8_read_143 rfl
                have W := i_ia (q := 145) H I_X8_read_144 LY_85 rfl
                clear H
                obtain ⟨i_144, bi_144, ei_144, H⟩ := W
                have W := i_cv1 0 (q := 148) H I_X8_read_145 K_8_173 Zm_144 rfl rfl
                clear H
                obtain ⟨r1, h1, Hc, K1, K2⟩ := W
                obtain ⟨M_145, v_145, e1, e2, F_145⟩ := t_X8_turns hP hg hc hM Hc
                have H := K1 _ _ e1 e2
                clear e1 e2 Hc K1 K2
                obtain ⟨g1, P1, G1, E1, f1⟩ : ∃ g1, PG M_145 0 g1 ∧ gok g1 c ∧ (∀ q, 15 ≤ q → ¬ q = 17 → g1 q = g0 q) ∧ ∀ a b, ¬ (a = 72 ∧ b < 27) → M_145 a b = m a b := by
                  rcases F_145 with ⟨_, _, rfl⟩ | ⟨_, _, y1, y2⟩
                  · exact ⟨g, hP, hg, hE, fun _ _ _ => rfl⟩
                  · exact ⟨_, y1, gok_t hg, fun q h1 h2 => (gTry2_k hg.1 h1 h2).trans (hE q h1 h2), fun a b h => y2 a b (by omega)⟩
                replace H := i_icst (x := (-1)) (q := 149) H I_X8_read_148 (by decide) rfl
                have W := i_ic_ne (t := 165) (q := 152) H I_X8_read_149 (by decide) rfl
                clear H
                rcases W with ⟨c_149, H⟩ | ⟨c_149, H⟩
                · skip
                  replace H := i_inc (q := 168) H I_X8_read_165 rfl rfl rfl
                  replace H := i_inc (q := 171) H I_X8_read_168 rfl rfl rfl
                  replace H := i_goto (q := 55) H I_X8_read_171 (by decide)
                  exact absurd c_127 (by decide)
                · skip
                  replace H := i_aln (q := 153) H I_X8_read_152 rfl rfl
                  replace H := i_bip (x := 81) (q := 155) H I_X8_read_153 (by decide) rfl
                  replace H := i_icst (x := 0) (q := 156) H I_X8_read_155 (by decide) rfl
                  have W := i_cv2 1 (q := 159) H I_X8_read_156 K_8_188 Zm_147 rfl rfl
                  clear H
                  obtain ⟨r1, h1, Hc, K1, K2⟩ := W
                  obtain ⟨M_156, e1, e2, F_156⟩ := t_X8_copies (f := 81) (t := 0) rfl rfl (by omega) (by omega) (by omega) Hc
                  have H := K2 _ e1 e2
                  clear e1 e2 Hc K1 K2
                  replace H := i_bip (x := (-20)) (q := 161) H I_X8_read_159 (by decide) rfl
                  replace H := i_il (q := 163) H I_X8_read_161 rfl rfl
                  replace H := i_isub (q := 164) H I_X8_read_163 rfl
                  obtain ⟨hr, hh⟩ := i_ir H I_X8_read_164
                  exact absurd c_127 (by decide)
          · skip
            replace H := i_icst (x := 3) (q := 93) H I_X8_read_92 (by decide) rfl
            replace H := i_goto (q := 123) H I_X8_read_93 (by decide)
            replace H := i_is (q := 125) H I_X8_read_123 rfl rfl
            replace H := i_il (q := 127) H I_X8_read_125 rfl rfl
            have W := i_if_ne (t := 168) (q := 130) H I_X8_read_127 (by decide) rfl
            clear H
            rcases W with ⟨c_127, H⟩ | ⟨c_127, H⟩
            · skip
              replace H := i_inc (q := 171) H I_X8_read_168 rfl rfl rfl
              replace H := i_goto (q := 55) H I_X8_read_171 (by decide)
              replace H : zE none d zm_X8_read 55 [.ref 71, .int k, .int ln, .int f, .int (Int32.ofNat n), .int 3, .int ca, .int (Int32.ofNat (i + 1))] [] m r h' := by
                rw [← zofn_s]
                exact H
              exact ih (i + 1) 3 ca g d r h' m (by omega) hP hA hg hE hc hM H
            · skip
              replace H := i_aln (q := 131) H I_X8_read_130 rfl rfl
              replace H := i_aln (q := 132) H I_X8_read_131 rfl rfl
              replace H := i_gfr (q := 135) H I_X8_read_132 G_8_50 cn_X8_read LY_71 rfl rfl
              replace H := i_bip (x := 40) (q := 137) H I_X8_read_135 (by decide) rfl
              replace H := i_iln (q := 138) H I_X8_read_137 rfl rfl
              replace H := i_imul (q := 139) H I_X8_read_138 rfl
              replace H := i_iln (q := 140) H I_X8_read_139 rfl rfl
              replace H := i_iadd (q := 141) H I_X8_read_140 rfl
              replace H := i_il (q := 143) H I_X8_read_141 rfl rfl
              replace H := i_iadd (q := 144) H I_X8_read_143 rfl
              have W := i_ia (q := 145) H I_X8_read_144 LY_85 rfl
              clear H
              obtain ⟨i_144, bi_144, ei_144, H⟩ := W
              have W := i_cv1 0 (q := 148) H I_X8_read_145 K_8_173 Zm_144 rfl rfl
              clear H
              obtain ⟨r1, h1, Hc, K1, K2⟩ := W
              obtain ⟨M_145, v_145, e1, e2, F_145⟩ := t_X8_turns hP hg hc hM Hc
              have H := K1 _ _ e1 e2
              clear e1 e2 Hc K1 K2
              obtain ⟨g1, P1, G1, E1, f1⟩ : ∃ g1, PG M_145 0 g1 ∧ gok g1 c ∧ (∀ q, 15 ≤ q → ¬ q = 17 → g1 q = g0 q) ∧ ∀ a b, ¬ (a = 72 ∧ b < 27) → M_145 a b = m a b := by
                rcases F_145 with ⟨_, _, rfl⟩ | ⟨_, _, y1, y2⟩
                · exact ⟨g, hP, hg, hE, fun _ _ _ => rfl⟩
                · exact ⟨_, y1, gok_t hg, fun q h1 h2 => (gTry2_k hg.1 h1 h2).trans (hE q h1 h2), fun a b h => y2 a b (by omega)⟩
              replace H := i_icst (x := (-1)) (q := 149) H I_X8_read_148 (by decide) rfl
              have W := i_ic_ne (t := 165) (q := 152) H I_X8_read_149 (by decide) rfl
              clear H
              rcases W with ⟨c_149, H⟩ | ⟨c_149, H⟩
              · skip
                replace H := i_inc (q := 168) H I_X8_read_165 rfl rfl rfl
                replace H := i_inc (q := 171) H I_X8_read_168 rfl rfl rfl
                replace H := i_goto (q := 55) H I_X8_read_171 (by decide)
                exact absurd c_127 (by decide)
              · skip
                replace H := i_aln (q := 153) H I_X8_read_152 rfl rfl
                replace H := i_bip (x := 81) (q := 155) H I_X8_read_153 (by decide) rfl
                replace H := i_icst (x := 0) (q := 156) H I_X8_read_155 (by decide) rfl
                have W := i_cv2 1 (q := 159) H I_X8_read_156 K_8_188 Zm_147 rfl rfl
                clear H
                obtain ⟨r1, h1, Hc, K1, K2⟩ := W
                obtain ⟨M_156, e1, e2, F_156⟩ := t_X8_copies (f := 81) (t := 0) rfl rfl (by omega) (by omega) (by omega) Hc
                have H := K2 _ e1 e2
                clear e1 e2 Hc K1 K2
                replace H := i_bip (x := (-20)) (q := 161) H I_X8_read_159 (by decide) rfl
                replace H := i_il (q := 163) H I_X8_read_161 rfl rfl
                replace H := i_isub (q := 164) H I_X8_read_163 rfl
                obtain ⟨hr, hh⟩ := i_ir H I_X8_read_164
                exact absurd c_127 (by decide)
        · skip
          replace H := i_icst (x := 1) (q := 79) H I_X8_read_78 (by decide) rfl
          replace H := i_goto (q := 123) H I_X8_read_79 (by decide)
          replace H := i_is (q := 125) H I_X8_read_123 rfl rfl
          replace H := i_il (q := 127) H I_X8_read_125 rfl rfl
          have W := i_if_ne (t := 168) (q := 130) H I_X8_read_127 (by decide) rfl
          clear H
          rcases W with ⟨c_127, H⟩ | ⟨c_127, H⟩
          · skip
            replace H := i_inc (q := 171) H I_X8_read_168 rfl rfl rfl
            replace H := i_goto (q := 55) H I_X8_read_171 (by decide)
            replace H : zE none d zm_X8_read 55 [.ref 71, .int k, .int ln, .int f, .int (Int32.ofNat n), .int 1, .int ca, .int (Int32.ofNat (i + 1))] [] m r h' := by
              rw [← zofn_s]
              exact H
            exact ih (i + 1) 1 ca g d r h' m (by omega) hP hA hg hE hc hM H
          · skip
            replace H := i_aln (q := 131) H I_X8_read_130 rfl rfl
            replace H := i_aln (q := 132) H I_X8_read_131 rfl rfl
            replace H := i_gfr (q := 135) H I_X8_read_132 G_8_50 cn_X8_read LY_71 rfl rfl
            replace H := i_bip (x := 40) (q := 137) H I_X8_read_135 (by decide) rfl
            replace H := i_iln (q := 138) H I_X8_read_137 rfl rfl
            replace H := i_imul (q := 139) H I_X8_read_138 rfl
            replace H := i_iln (q := 140) H I_X8_read_139 rfl rfl
            replace H := i_iadd (q := 141) H I_X8_read_140 rfl
            replace H := i_il (q := 143) H I_X8_read_141 rfl rfl
            replace H := i_iadd (q := 144) H I_X8_read_143 rfl
            have W := i_ia (q := 145) H I_X8_read_144 LY_85 rfl
            clear H
            obtain ⟨i_144, bi_144, ei_144, H⟩ := W
            have W := i_cv1 0 (q := 148) H I_X8_read_145 K_8_173 Zm_144 rfl rfl
            clear H
            obtain ⟨r1, h1, Hc, K1, K2⟩ := W
            obtain ⟨M_145, v_145, e1, e2, F_145⟩ := t_X8_turns hP hg hc hM Hc
            have H := K1 _ _ e1 e2
            clear e1 e2 Hc K1 K2
            obtain ⟨g1, P1, G1, E1, f1⟩ : ∃ g1, PG M_145 0 g1 ∧ gok g1 c ∧ (∀ q, 15 ≤ q → ¬ q = 17 → g1 q = g0 q) ∧ ∀ a b, ¬ (a = 72 ∧ b < 27) → M_145 a b = m a b := by
              rcases F_145 with ⟨_, _, rfl⟩ | ⟨_, _, y1, y2⟩
              · exact ⟨g, hP, hg, hE, fun _ _ _ => rfl⟩
              · exact ⟨_, y1, gok_t hg, fun q h1 h2 => (gTry2_k hg.1 h1 h2).trans (hE q h1 h2), fun a b h => y2 a b (by omega)⟩
            replace H := i_icst (x := (-1)) (q := 149) H I_X8_read_148 (by decide) rfl
            have W := i_ic_ne (t := 165) (q := 152) H I_X8_read_149 (by decide) rfl
            clear H
            rcases W with ⟨c_149, H⟩ | ⟨c_149, H⟩
            · skip
              replace H := i_inc (q := 168) H I_X8_read_165 rfl rfl rfl
              replace H := i_inc (q := 171) H I_X8_read_168 rfl rfl rfl
              replace H := i_goto (q := 55) H I_X8_read_171 (by decide)
              exact absurd c_127 (by decide)
            · skip
              replace H := i_aln (q := 153) H I_X8_read_152 rfl rfl
              replace H := i_bip (x := 81) (q := 155) H I_X8_read_153 (by decide) rfl
              replace H := i_icst (x := 0) (q := 156) H I_X8_read_155 (by decide) rfl
              have W := i_cv2 1 (q := 159) H I_X8_read_156 K_8_188 Zm_147 rfl rfl
              clear H
              obtain ⟨r1, h1, Hc, K1, K2⟩ := W
              obtain ⟨M_156, e1, e2, F_156⟩ := t_X8_copies (f := 81) (t := 0) rfl rfl (by omega) (by omega) (by omega) Hc
              have H := K2 _ e1 e2
              clear e1 e2 Hc K1 K2
              replace H := i_bip (x := (-20)) (q := 161) H I_X8_read_159 (by decide) rfl
              replace H := i_il (q := 163) H I_X8_read_161 rfl rfl
              replace H := i_isub (q := 164) H I_X8_read_163 rfl
              obtain ⟨hr, hh⟩ := i_ir H I_X8_read_164
              exact absurd c_127 (by decide)
theorem zbt_20 {x : Int32} (h : zBt x 0 20) : ∃ n, n ≤ 20 ∧ x = Int32.ofNat n := zbt_n (n := 20) rfl (by omega) h
theorem t_X8_readb {d : Nat} {m : zM} {r : Option Value} {h' : zHp} {x y z u : Int32} {c : Nat} {g : Nat → Int32} (hP : PG m 0 g) (hg : gok g c) (hc : m 71 2 = Int32.ofNat c) (hM : zMk m) (H : zE none d zm_X8_read 0 [.ref 71, .int x, .int y, .int z, .int u, .null, .null, .null] [] m r h') : ∃ m1, h' = zhp m1 ∧ ∀ q, 15 ≤ q → ¬ q = 17 → q < 27 → m1 72 q = g q := by
  replace H := i_iln (q := 1) H I_X8_read_0 rfl rfl
  replace H := i_i2l (q := 2) H I_X8_read_1 rfl
  replace H := i_lcst (x := 0) (q := 3) H I_X8_read_2 (by decide) rfl
  replace H := i_ldc2 (x := 3) (q := 6) H I_X8_read_3 J_8_155 (by decide) rfl
  replace H := i_in (q := 9) H I_X8_read_6 K_8_55 rfl
  have W := i_if_eq (t := 37) (q := 12) H I_X8_read_9 (by decide) rfl
  clear H
  rcases W with ⟨c_9, H⟩ | ⟨c_9, H⟩
  · skip
    replace H := i_icst (x := (-1)) (q := 38) H I_X8_read_37 (by decide) rfl
    obtain ⟨hr, hh⟩ := i_ir H I_X8_read_38
    exact ⟨m, hh, fun q h1 h2 h3 => PG_0 hP h3⟩
  · skip
    replace H := i_iln (q := 13) H I_X8_read_12 rfl rfl
    replace H := i_i2l (q := 14) H I_X8_read_13 rfl
    replace H := i_lcst (x := 0) (q := 15) H I_X8_read_14 (by decide) rfl
    replace H := i_ldc2 (x := 2) (q := 18) H I_X8_read_15 J_8_157 (by decide) rfl
    replace H := i_in (q := 21) H I_X8_read_18 K_8_55 rfl
    have W := i_if_eq (t := 37) (q := 24) H I_X8_read_21 (by decide) rfl
    clear H
    rcases W with ⟨c_21, H⟩ | ⟨c_21, H⟩
    · skip
      replace H := i_icst (x := (-1)) (q := 38) H I_X8_read_37 (by decide) rfl
      obtain ⟨hr, hh⟩ := i_ir H I_X8_read_38
      exact ⟨m, hh, fun q h1 h2 h3 => PG_0 hP h3⟩
    · skip
      replace H := i_il (q := 26) H I_X8_read_24 rfl rfl
      replace H := i_i2l (q := 27) H I_X8_read_26 rfl
      replace H := i_lcst (x := 0) (q := 28) H I_X8_read_27 (by decide) rfl
      replace H := i_ldc2 (x := 20) (q := 31) H I_X8_read_28 J_8_242 (by decide) rfl
      replace H := i_in (q := 34) H I_X8_read_31 K_8_55 rfl
      have W := i_if_ne (t := 39) (q := 37) H I_X8_read_34 (by decide) rfl
      clear H
      rcases W with ⟨c_34, H⟩ | ⟨c_34, H⟩
      · skip
        replace H := i_aln (q := 40) H I_X8_read_39 rfl rfl
        replace H := i_icst (x := 0) (q := 41) H I_X8_read_40 (by decide) rfl
        replace H := i_bip (x := 81) (q := 43) H I_X8_read_41 (by decide) rfl
        have W := i_cv2 1 (q := 46) H I_X8_read_43 K_8_188 Zm_147 rfl rfl
        clear H
        obtain ⟨r1, h1, Hc, K1, K2⟩ := W
        obtain ⟨M_43, e1, e2, F_43⟩ := t_X8_copies (f := 0) (t := 81) rfl rfl (by omega) (by omega) (by omega) Hc
        have H := K2 _ e1 e2
        clear e1 e2 Hc K1 K2
        replace H := i_icst (x := 0) (q := 47) H I_X8_read_46 (by decide) rfl
        replace H := i_is (q := 49) H I_X8_read_47 rfl rfl
        replace H := i_icst (x := 0) (q := 50) H I_X8_read_49 (by decide) rfl
        replace H := i_is (q := 52) H I_X8_read_50 rfl rfl
        replace H := i_icst (x := 0) (q := 53) H I_X8_read_52 (by decide) rfl
        replace H := i_is (q := 55) H I_X8_read_53 rfl rfl
        rw [zin_bt (lo := 0) (hi := 20) rfl rfl] at c_34
        obtain ⟨k, k1, rfl⟩ := zbt_20 (zif1 c_34)
        exact rd_loop (c := c) (g0 := g) k1 k 0 0 0 g d r h' M_43 (by omega) ⟨hP.1, fun j hj => (F_43.2 _ _ (by omega)).trans (hP.2 j hj)⟩ ⟨by omega, fun j hj => (F_43.1 j hj).trans (hP.2 j hj)⟩ hg (fun _ _ _ => rfl) ((F_43.2 71 2 (by omega)).trans hc) ⟨(F_43.2 73 0 (by omega)).trans hM.1, (F_43.2 73 1 (by omega)).trans hM.2.1, (F_43.2 73 2 (by omega)).trans hM.2.2.1, (F_43.2 73 3 (by omega)).trans hM.2.2.2⟩ H
      · skip
        replace H := i_icst (x := (-1)) (q := 38) H I_X8_read_37 (by decide) rfl
        obtain ⟨hr, hh⟩ := i_ir H I_X8_read_38
        exact ⟨m, hh, fun q h1 h2 h3 => PG_0 hP h3⟩
theorem gok_ty {m : zM} {c : Nat} (ht : zTy m) (hc5 : c ≤ 5) : gok (fun j => m 72 (0 + j)) c := by
  refine ⟨hc5, fun i hi => ?_, zTy_r (k := 72) (i := 17) ht rfl ⟨_, LY_72, rfl⟩ rfl⟩
  have hi5 : i < 5 := by omega
  match i, hi5 with
  | 0, _ => exact ⟨zTy_r (k := 72) (i := 0) ht rfl ⟨_, LY_72, rfl⟩ rfl, zTy_r (k := 72) (i := 5) ht rfl ⟨_, LY_72, rfl⟩ rfl, zTy_r (k := 72) (i := 10) ht rfl ⟨_, LY_72, rfl⟩ rfl⟩
  | 1, _ => exact ⟨zTy_r (k := 72) (i := 1) ht rfl ⟨_, LY_72, rfl⟩ rfl, zTy_r (k := 72) (i := 6) ht rfl ⟨_, LY_72, rfl⟩ rfl, zTy_r (k := 72) (i := 11) ht rfl ⟨_, LY_72, rfl⟩ rfl⟩
  | 2, _ => exact ⟨zTy_r (k := 72) (i := 2) ht rfl ⟨_, LY_72, rfl⟩ rfl, zTy_r (k := 72) (i := 7) ht rfl ⟨_, LY_72, rfl⟩ rfl, zTy_r (k := 72) (i := 12) ht rfl ⟨_, LY_72, rfl⟩ rfl⟩
  | 3, _ => exact ⟨zTy_r (k := 72) (i := 3) ht rfl ⟨_, LY_72, rfl⟩ rfl, zTy_r (k := 72) (i := 8) ht rfl ⟨_, LY_72, rfl⟩ rfl, zTy_r (k := 72) (i := 13) ht rfl ⟨_, LY_72, rfl⟩ rfl⟩
  | 4, _ => exact ⟨zTy_r (k := 72) (i := 4) ht rfl ⟨_, LY_72, rfl⟩ rfl, zTy_r (k := 72) (i := 9) ht rfl ⟨_, LY_72, rfl⟩ rfl, zTy_r (k := 72) (i := 14) ht rfl ⟨_, LY_72, rfl⟩ rfl⟩
def RE (m : zM) : Prop := RB m ∧ zMk m
def q73 (k i : Nat) : Bool := Nat.beq k 73 && Nat.blt i 4
theorem q73_p : zqp q73 = true := by decide +kernel
theorem zMk_e {md : yMd} {m m1 : zM} (h : zMk m) (hf : zfm md m m1) (hc : zqm q73 md = true) : zMk m1 := by
  have he := zq_f q73_p hc hf
  exact ⟨(he 73 0 rfl rfl rfl).trans h.1, (he 73 1 rfl rfl rfl).trans h.2.1, (he 73 2 rfl rfl rfl).trans h.2.2.1, (he 73 3 rfl rfl rfl).trans h.2.2.2⟩
def qBr (k i : Nat) : Bool := qB k i && !(Nat.beq k 72 && Nat.blt i 27)
theorem pe_feed {m : zM} {r : Option Value} {h' : zHp} {x0 : Int32} (ht : zTy m) (hR : RE m) (H : zEv none 19 zm_X7_feed (0, lv_args 0 [.ref 0, .int x0], [], zhp m) r h') : ∃ m1 v, r = some (.int v) ∧ h' = zhp m1 ∧ zTy m1 ∧ ∀ r2 h2, zEv none 19 zm_X8_feed (0, lv_args 0 [.ref 71, .int x0], [], zhp m1) r2 h2 → ∃ m2 v2, r2 = some (.int v2) ∧ h2 = zhp m2 ∧ zTy m2 ∧ RE m2 := by
  obtain ⟨hR1, hM⟩ := hR
  obtain ⟨m1, v, b1, b2, t1, K⟩ := pb_feed ht hR1 H
  obtain ⟨q1, q2, q3, q4, q5, q6⟩ := e_X7_feed ht H
  obtain ⟨_, f1⟩ := eng_m b2 q4 q5 q6
  refine ⟨m1, v, b1, b2, t1, fun r2 h2 H2 => ?_⟩
  obtain ⟨m2, v2, d1, d2, t2, R2⟩ := K r2 h2 H2
  obtain ⟨u1, u2, u3, u4, u5, u6⟩ := e_X8_feed t1 H2
  obtain ⟨_, f2⟩ := eng_m d2 u4 u5 u6
  exact ⟨m2, v2, d1, d2, t2, ⟨R2, zMk_e (zMk_e hM f1 (by decide +kernel)) f2 (by decide +kernel)⟩⟩
theorem pe_end {m : zM} {r : Option Value} {h' : zHp} {x0 : Int32} (ht : zTy m) (hR : RE m) (H : zEv none 19 zm_X7_end (0, lv_args 0 [.ref 0, .int x0], [], zhp m) r h') : ∃ m1 v, r = some (.int v) ∧ h' = zhp m1 ∧ zTy m1 ∧ ∀ r2 h2, zEv none 19 zm_X8_end (0, lv_args 0 [.ref 71, .int x0], [], zhp m1) r2 h2 → ∃ m2 v2, r2 = some (.int v2) ∧ h2 = zhp m2 ∧ zTy m2 ∧ RE m2 := by
  obtain ⟨hR1, hM⟩ := hR
  obtain ⟨m1, v, b1, b2, t1, K⟩ := pb_end ht hR1 H
  obtain ⟨q1, q2, q3, q4, q5, q6⟩ := e_X7_end ht H
  obtain ⟨_, f1⟩ := eng_m b2 q4 q5 q6
  refine ⟨m1, v, b1, b2, t1, fun r2 h2 H2 => ?_⟩
  obtain ⟨m2, v2, d1, d2, t2, R2⟩ := K r2 h2 H2
  obtain ⟨u1, u2, u3, u4, u5, u6⟩ := e_X8_end t1 H2
  obtain ⟨_, f2⟩ := eng_m d2 u4 u5 u6
  exact ⟨m2, v2, d1, d2, t2, ⟨R2, zMk_e (zMk_e hM f1 (by decide +kernel)) f2 (by decide +kernel)⟩⟩
theorem pe_text {m : zM} {r : Option Value} {h' : zHp} (ht : zTy m) (hR : RE m) (H : zEv none 19 zm_X7_text (0, lv_args 0 [.ref 0], [], zhp m) r h') : ∃ m1 v, r = some (.int v) ∧ h' = zhp m1 ∧ zTy m1 ∧ ∀ r2 h2, zEv none 19 zm_X8_text (0, lv_args 0 [.ref 71], [], zhp m1) r2 h2 → ∃ m2 v2, r2 = some (.int v2) ∧ h2 = zhp m2 ∧ zTy m2 ∧ RE m2 ∧ v = v2 := by
  obtain ⟨hR1, hM⟩ := hR
  obtain ⟨m1, v, b1, b2, t1, K⟩ := pb_text ht hR1 H
  obtain ⟨q1, q2, q3, q4, q5, q6⟩ := e_X7_text ht H
  obtain ⟨_, f1⟩ := eng_m b2 q4 q5 q6
  refine ⟨m1, v, b1, b2, t1, fun r2 h2 H2 => ?_⟩
  obtain ⟨m2, v2, d1, d2, t2, R2, e⟩ := K r2 h2 H2
  obtain ⟨u1, u2, u3, u4, u5, u6⟩ := e_X8_text t1 H2
  obtain ⟨_, f2⟩ := eng_m d2 u4 u5 u6
  exact ⟨m2, v2, d1, d2, t2, ⟨R2, zMk_e (zMk_e hM f1 (by decide +kernel)) f2 (by decide +kernel)⟩, e⟩
theorem pe_fault {m : zM} {r : Option Value} {h' : zHp} (ht : zTy m) (hR : RE m) (H : zEv none 19 zm_X7_fault (0, lv_args 0 [.ref 0], [], zhp m) r h') : ∃ m1 v, r = some (.int v) ∧ h' = zhp m1 ∧ zTy m1 ∧ ∀ r2 h2, zEv none 19 zm_X8_fault (0, lv_args 0 [.ref 71], [], zhp m1) r2 h2 → ∃ m2 v2, r2 = some (.int v2) ∧ h2 = zhp m2 ∧ zTy m2 ∧ RE m2 := by
  obtain ⟨hR1, hM⟩ := hR
  obtain ⟨m1, v, b1, b2, t1, K⟩ := pb_fault ht hR1 H
  obtain ⟨q1, q2, q3, q4, q5, q6⟩ := e_X7_fault ht H
  obtain ⟨_, f1⟩ := eng_m b2 q4 q5 q6
  refine ⟨m1, v, b1, b2, t1, fun r2 h2 H2 => ?_⟩
  obtain ⟨m2, v2, d1, d2, t2, R2⟩ := K r2 h2 H2
  obtain ⟨u1, u2, u3, u4, u5, u6⟩ := e_X8_fault t1 H2
  obtain ⟨_, f2⟩ := eng_m d2 u4 u5 u6
  exact ⟨m2, v2, d1, d2, t2, ⟨R2, zMk_e (zMk_e hM f1 (by decide +kernel)) f2 (by decide +kernel)⟩⟩
theorem pe_rule {m : zM} {r : Option Value} {h' : zHp} {x0 : Int32} (ht : zTy m) (hR : RE m) (H : zEv none 19 zm_X7_rule (0, lv_args 0 [.ref 0, .int x0], [], zhp m) r h') : ∃ m1 v, r = some (.int v) ∧ h' = zhp m1 ∧ zTy m1 ∧ ∀ r2 h2, zEv none 19 zm_X8_rule (0, lv_args 0 [.ref 71, .int x0], [], zhp m1) r2 h2 → ∃ m2 v2, r2 = some (.int v2) ∧ h2 = zhp m2 ∧ zTy m2 ∧ RE m2 := by
  obtain ⟨hR1, hM⟩ := hR
  obtain ⟨m1, v, b1, b2, t1, K⟩ := pb_rule ht hR1 H
  obtain ⟨q1, q2, q3, q4, q5, q6⟩ := e_X7_rule ht H
  obtain ⟨_, f1⟩ := eng_m b2 q4 q5 q6
  refine ⟨m1, v, b1, b2, t1, fun r2 h2 H2 => ?_⟩
  obtain ⟨m2, v2, d1, d2, t2, R2⟩ := K r2 h2 H2
  obtain ⟨u1, u2, u3, u4, u5, u6⟩ := e_X8_rule t1 H2
  obtain ⟨_, f2⟩ := eng_m d2 u4 u5 u6
  exact ⟨m2, v2, d1, d2, t2, ⟨R2, zMk_e (zMk_e hM f1 (by decide +kernel)) f2 (by decide +kernel)⟩⟩
theorem pe_one {m : zM} {r : Option Value} {h' : zHp} {x0 x1 : Int32} (ht : zTy m) (hR : RE m) (H : zEv none 19 zm_X7_one (0, lv_args 0 [.ref 0, .int x0, .int x1], [], zhp m) r h') : ∃ m1 v, r = some (.int v) ∧ h' = zhp m1 ∧ zTy m1 ∧ ∀ r2 h2, zEv none 19 zm_X8_one (0, lv_args 0 [.ref 71, .int x0, .int x1], [], zhp m1) r2 h2 → ∃ m2 v2, r2 = some (.int v2) ∧ h2 = zhp m2 ∧ zTy m2 ∧ RE m2 := by
  obtain ⟨hR1, hM⟩ := hR
  obtain ⟨m1, v, b1, b2, t1, K⟩ := pb_one ht hR1 H
  obtain ⟨q1, q2, q3, q4, q5, q6⟩ := e_X7_one ht H
  obtain ⟨_, f1⟩ := eng_m b2 q4 q5 q6
  refine ⟨m1, v, b1, b2, t1, fun r2 h2 H2 => ?_⟩
  obtain ⟨m2, v2, d1, d2, t2, R2⟩ := K r2 h2 H2
  obtain ⟨u1, u2, u3, u4, u5, u6⟩ := e_X8_one t1 H2
  obtain ⟨_, f2⟩ := eng_m d2 u4 u5 u6
  exact ⟨m2, v2, d1, d2, t2, ⟨R2, zMk_e (zMk_e hM f1 (by decide +kernel)) f2 (by decide +kernel)⟩⟩
theorem pe_act {m : zM} {r : Option Value} {h' : zHp} {x0 : Int32} (ht : zTy m) (hR : RE m) (H : zEv none 19 zm_X7_act (0, lv_args 0 [.ref 0, .int x0], [], zhp m) r h') : ∃ m1 v, r = some (.int v) ∧ h' = zhp m1 ∧ zTy m1 ∧ ∀ r2 h2, zEv none 19 zm_X8_act (0, lv_args 0 [.ref 71, .int x0], [], zhp m1) r2 h2 → ∃ m2 v2, r2 = some (.int v2) ∧ h2 = zhp m2 ∧ zTy m2 ∧ RE m2 ∧ v = v2 := by
  obtain ⟨hR1, hM⟩ := hR
  obtain ⟨m1, v, b1, b2, t1, K⟩ := pb_act ht hR1 H
  obtain ⟨q1, q2, q3, q4, q5, q6⟩ := e_X7_act ht H
  obtain ⟨_, f1⟩ := eng_m b2 q4 q5 q6
  refine ⟨m1, v, b1, b2, t1, fun r2 h2 H2 => ?_⟩
  obtain ⟨m2, v2, d1, d2, t2, R2, e⟩ := K r2 h2 H2
  obtain ⟨u1, u2, u3, u4, u5, u6⟩ := e_X8_act t1 H2
  obtain ⟨_, f2⟩ := eng_m d2 u4 u5 u6
  exact ⟨m2, v2, d1, d2, t2, ⟨R2, zMk_e (zMk_e hM f1 (by decide +kernel)) f2 (by decide +kernel)⟩, e⟩
theorem pe_alter {m : zM} {r : Option Value} {h' : zHp} {x0 x1 x2 : Int32} (ht : zTy m) (hR : RE m) (H : zEv none 19 zm_X7_alter (0, lv_args 0 [.ref 0, .int x0, .int x1, .int x2], [], zhp m) r h') : ∃ m1 v, r = some (.int v) ∧ h' = zhp m1 ∧ zTy m1 ∧ ∀ r2 h2, zEv none 19 zm_X8_alter (0, lv_args 0 [.ref 71, .int x0, .int x1, .int x2], [], zhp m1) r2 h2 → ∃ m2 v2, r2 = some (.int v2) ∧ h2 = zhp m2 ∧ zTy m2 ∧ RE m2 := by
  obtain ⟨hR1, hM⟩ := hR
  obtain ⟨m1, v, b1, b2, t1, K⟩ := pb_alter ht hR1 H
  obtain ⟨q1, q2, q3, q4, q5, q6⟩ := e_X7_alter ht H
  obtain ⟨_, f1⟩ := eng_m b2 q4 q5 q6
  refine ⟨m1, v, b1, b2, t1, fun r2 h2 H2 => ?_⟩
  obtain ⟨m2, v2, d1, d2, t2, R2⟩ := K r2 h2 H2
  obtain ⟨u1, u2, u3, u4, u5, u6⟩ := e_X8_alter t1 H2
  obtain ⟨_, f2⟩ := eng_m d2 u4 u5 u6
  exact ⟨m2, v2, d1, d2, t2, ⟨R2, zMk_e (zMk_e hM f1 (by decide +kernel)) f2 (by decide +kernel)⟩⟩
theorem pe_slack {m : zM} {r : Option Value} {h' : zHp} {x0 : Int32} (ht : zTy m) (hR : RE m) (H : zEv none 19 zm_X7_slack (0, lv_args 0 [.ref 0, .int x0], [], zhp m) r h') : ∃ m1 v, r = some (.int v) ∧ h' = zhp m1 ∧ zTy m1 ∧ ∀ r2 h2, zEv none 19 zm_X8_slack (0, lv_args 0 [.ref 71, .int x0], [], zhp m1) r2 h2 → ∃ m2 v2, r2 = some (.int v2) ∧ h2 = zhp m2 ∧ zTy m2 ∧ RE m2 ∧ v = v2 := by
  obtain ⟨hR1, hM⟩ := hR
  obtain ⟨m1, v, b1, b2, t1, K⟩ := pb_slack ht hR1 H
  obtain ⟨q1, q2, q3, q4, q5, q6⟩ := e_X7_slack ht H
  obtain ⟨_, f1⟩ := eng_m b2 q4 q5 q6
  refine ⟨m1, v, b1, b2, t1, fun r2 h2 H2 => ?_⟩
  obtain ⟨m2, v2, d1, d2, t2, R2, e⟩ := K r2 h2 H2
  obtain ⟨u1, u2, u3, u4, u5, u6⟩ := e_X8_slack t1 H2
  obtain ⟨_, f2⟩ := eng_m d2 u4 u5 u6
  exact ⟨m2, v2, d1, d2, t2, ⟨R2, zMk_e (zMk_e hM f1 (by decide +kernel)) f2 (by decide +kernel)⟩, e⟩
theorem pe_plan {m : zM} {r : Option Value} {h' : zHp} {x0 : Int32} (ht : zTy m) (hR : RE m) (H : zEv none 19 zm_X7_plan (0, lv_args 0 [.ref 0, .int x0], [], zhp m) r h') : ∃ m1 v, r = some (.int v) ∧ h' = zhp m1 ∧ zTy m1 ∧ ∀ r2 h2, zEv none 19 zm_X8_plan (0, lv_args 0 [.ref 71, .int x0], [], zhp m1) r2 h2 → ∃ m2 v2, r2 = some (.int v2) ∧ h2 = zhp m2 ∧ zTy m2 ∧ RE m2 ∧ v = v2 := by
  obtain ⟨hR1, hM⟩ := hR
  obtain ⟨m1, v, b1, b2, t1, K⟩ := pb_plan ht hR1 H
  obtain ⟨q1, q2, q3, q4, q5, q6⟩ := e_X7_plan ht H
  obtain ⟨_, f1⟩ := eng_m b2 q4 q5 q6
  refine ⟨m1, v, b1, b2, t1, fun r2 h2 H2 => ?_⟩
  obtain ⟨m2, v2, d1, d2, t2, R2, e⟩ := K r2 h2 H2
  obtain ⟨u1, u2, u3, u4, u5, u6⟩ := e_X8_plan t1 H2
  obtain ⟨_, f2⟩ := eng_m d2 u4 u5 u6
  exact ⟨m2, v2, d1, d2, t2, ⟨R2, zMk_e (zMk_e hM f1 (by decide +kernel)) f2 (by decide +kernel)⟩, e⟩
theorem pe_cut {m : zM} {r : Option Value} {h' : zHp} {x0 : Int32} (ht : zTy m) (hR : RE m) (H : zEv none 19 zm_X7_cut (0, lv_args 0 [.ref 0, .int x0], [], zhp m) r h') : ∃ m1 v, r = some (.int v) ∧ h' = zhp m1 ∧ zTy m1 ∧ ∀ r2 h2, zEv none 19 zm_X8_cut (0, lv_args 0 [.ref 71, .int x0], [], zhp m1) r2 h2 → ∃ m2 v2, r2 = some (.int v2) ∧ h2 = zhp m2 ∧ zTy m2 ∧ RE m2 ∧ v = v2 := by
  obtain ⟨hR1, hM⟩ := hR
  obtain ⟨m1, v, b1, b2, t1, K⟩ := pb_cut ht hR1 H
  obtain ⟨q1, q2, q3, q4, q5, q6⟩ := e_X7_cut ht H
  obtain ⟨_, f1⟩ := eng_m b2 q4 q5 q6
  refine ⟨m1, v, b1, b2, t1, fun r2 h2 H2 => ?_⟩
  obtain ⟨m2, v2, d1, d2, t2, R2, e⟩ := K r2 h2 H2
  obtain ⟨u1, u2, u3, u4, u5, u6⟩ := e_X8_cut t1 H2
  obtain ⟨_, f2⟩ := eng_m d2 u4 u5 u6
  exact ⟨m2, v2, d1, d2, t2, ⟨R2, zMk_e (zMk_e hM f1 (by decide +kernel)) f2 (by decide +kernel)⟩, e⟩
theorem pe_turn {m : zM} {r : Option Value} {h' : zHp} {x0 : Int32} (ht : zTy m) (hR : RE m) (H : zEv none 19 zm_X7_turn (0, lv_args 0 [.ref 0, .int x0], [], zhp m) r h') : ∃ m1 v, r = some (.int v) ∧ h' = zhp m1 ∧ zTy m1 ∧ ∀ r2 h2, zEv none 19 zm_X8_turn (0, lv_args 0 [.ref 71, .int x0], [], zhp m1) r2 h2 → ∃ m2 v2, r2 = some (.int v2) ∧ h2 = zhp m2 ∧ zTy m2 ∧ RE m2 := by
  obtain ⟨hR1, hM⟩ := hR
  obtain ⟨m1, v, b1, b2, t1, K⟩ := pb_turn ht hR1 H
  obtain ⟨q1, q2, q3, q4, q5, q6⟩ := e_X7_turn ht H
  obtain ⟨_, f1⟩ := eng_m b2 q4 q5 q6
  refine ⟨m1, v, b1, b2, t1, fun r2 h2 H2 => ?_⟩
  obtain ⟨m2, v2, d1, d2, t2, R2⟩ := K r2 h2 H2
  obtain ⟨u1, u2, u3, u4, u5, u6⟩ := e_X8_turn t1 H2
  obtain ⟨_, f2⟩ := eng_m d2 u4 u5 u6
  exact ⟨m2, v2, d1, d2, t2, ⟨R2, zMk_e (zMk_e hM f1 (by decide +kernel)) f2 (by decide +kernel)⟩⟩
theorem pe_rest {m : zM} {r : Option Value} {h' : zHp} {x0 : Int32} (ht : zTy m) (hR : RE m) (H : zEv none 19 zm_X7_rest (0, lv_args 0 [.ref 0, .int x0], [], zhp m) r h') : ∃ m1 v, r = some (.int v) ∧ h' = zhp m1 ∧ zTy m1 ∧ ∀ r2 h2, zEv none 19 zm_X8_rest (0, lv_args 0 [.ref 71, .int x0], [], zhp m1) r2 h2 → ∃ m2 v2, r2 = some (.int v2) ∧ h2 = zhp m2 ∧ zTy m2 ∧ RE m2 := by
  obtain ⟨hR1, hM⟩ := hR
  obtain ⟨m1, v, b1, b2, t1, K⟩ := pb_rest ht hR1 H
  obtain ⟨q1, q2, q3, q4, q5, q6⟩ := e_X7_rest ht H
  obtain ⟨_, f1⟩ := eng_m b2 q4 q5 q6
  refine ⟨m1, v, b1, b2, t1, fun r2 h2 H2 => ?_⟩
  obtain ⟨m2, v2, d1, d2, t2, R2⟩ := K r2 h2 H2
  obtain ⟨u1, u2, u3, u4, u5, u6⟩ := e_X8_rest t1 H2
  obtain ⟨_, f2⟩ := eng_m d2 u4 u5 u6
  exact ⟨m2, v2, d1, d2, t2, ⟨R2, zMk_e (zMk_e hM f1 (by decide +kernel)) f2 (by decide +kernel)⟩⟩
theorem pe_runs {m : zM} {r : Option Value} {h' : zHp} {x0 : Int32} (ht : zTy m) (hR : RE m) (H : zEv none 19 zm_X7_runs (0, lv_args 0 [.ref 0, .int x0], [], zhp m) r h') : ∃ m1 v, r = some (.int v) ∧ h' = zhp m1 ∧ zTy m1 ∧ ∀ r2 h2, zEv none 19 zm_X8_runs (0, lv_args 0 [.ref 71, .int x0], [], zhp m1) r2 h2 → ∃ m2 v2, r2 = some (.int v2) ∧ h2 = zhp m2 ∧ zTy m2 ∧ RE m2 := by
  obtain ⟨hR1, hM⟩ := hR
  obtain ⟨m1, v, b1, b2, t1, K⟩ := pb_runs ht hR1 H
  obtain ⟨q1, q2, q3, q4, q5, q6⟩ := e_X7_runs ht H
  obtain ⟨_, f1⟩ := eng_m b2 q4 q5 q6
  refine ⟨m1, v, b1, b2, t1, fun r2 h2 H2 => ?_⟩
  obtain ⟨m2, v2, d1, d2, t2, R2⟩ := K r2 h2 H2
  obtain ⟨u1, u2, u3, u4, u5, u6⟩ := e_X8_runs t1 H2
  obtain ⟨_, f2⟩ := eng_m d2 u4 u5 u6
  exact ⟨m2, v2, d1, d2, t2, ⟨R2, zMk_e (zMk_e hM f1 (by decide +kernel)) f2 (by decide +kernel)⟩⟩
theorem pe_ahead {m : zM} {r : Option Value} {h' : zHp} {x0 : Int32} (ht : zTy m) (hR : RE m) (H : zEv none 19 zm_X7_ahead (0, lv_args 0 [.ref 0, .int x0], [], zhp m) r h') : ∃ m1 v, r = some (.int v) ∧ h' = zhp m1 ∧ zTy m1 ∧ ∀ r2 h2, zEv none 19 zm_X8_ahead (0, lv_args 0 [.ref 71, .int x0], [], zhp m1) r2 h2 → ∃ m2 v2, r2 = some (.int v2) ∧ h2 = zhp m2 ∧ zTy m2 ∧ RE m2 := by
  obtain ⟨hR1, hM⟩ := hR
  obtain ⟨m1, v, b1, b2, t1, K⟩ := pb_ahead ht hR1 H
  obtain ⟨q1, q2, q3, q4, q5, q6⟩ := e_X7_ahead ht H
  obtain ⟨_, f1⟩ := eng_m b2 q4 q5 q6
  refine ⟨m1, v, b1, b2, t1, fun r2 h2 H2 => ?_⟩
  obtain ⟨m2, v2, d1, d2, t2, R2⟩ := K r2 h2 H2
  obtain ⟨u1, u2, u3, u4, u5, u6⟩ := e_X8_ahead t1 H2
  obtain ⟨_, f2⟩ := eng_m d2 u4 u5 u6
  exact ⟨m2, v2, d1, d2, t2, ⟨R2, zMk_e (zMk_e hM f1 (by decide +kernel)) f2 (by decide +kernel)⟩⟩
theorem pe_round {m : zM} {r : Option Value} {h' : zHp} (ht : zTy m) (hR : RE m) (H : zEv none 19 zm_X7_round (0, lv_args 0 [.ref 0], [], zhp m) r h') : ∃ m1 v, r = some (.int v) ∧ h' = zhp m1 ∧ zTy m1 ∧ ∀ r2 h2, zEv none 19 zm_X8_round (0, lv_args 0 [.ref 71], [], zhp m1) r2 h2 → ∃ m2 v2, r2 = some (.int v2) ∧ h2 = zhp m2 ∧ zTy m2 ∧ RE m2 := by
  obtain ⟨hR1, hM⟩ := hR
  obtain ⟨m1, v, b1, b2, t1, K⟩ := pb_round ht hR1 H
  obtain ⟨q1, q2, q3, q4, q5, q6⟩ := e_X7_round ht H
  obtain ⟨_, f1⟩ := eng_m b2 q4 q5 q6
  refine ⟨m1, v, b1, b2, t1, fun r2 h2 H2 => ?_⟩
  obtain ⟨m2, v2, d1, d2, t2, R2⟩ := K r2 h2 H2
  obtain ⟨u1, u2, u3, u4, u5, u6⟩ := e_X8_round t1 H2
  obtain ⟨_, f2⟩ := eng_m d2 u4 u5 u6
  exact ⟨m2, v2, d1, d2, t2, ⟨R2, zMk_e (zMk_e hM f1 (by decide +kernel)) f2 (by decide +kernel)⟩⟩
theorem pe_order {m : zM} {r : Option Value} {h' : zHp} {x0 x1 : Int32} (ht : zTy m) (hR : RE m) (H : zEv none 19 zm_X7_order (0, lv_args 0 [.ref 0, .int x0, .int x1], [], zhp m) r h') : ∃ m1 v, r = some (.int v) ∧ h' = zhp m1 ∧ zTy m1 ∧ ∀ r2 h2, zEv none 19 zm_X8_order (0, lv_args 0 [.ref 71, .int x0, .int x1], [], zhp m1) r2 h2 → ∃ m2 v2, r2 = some (.int v2) ∧ h2 = zhp m2 ∧ zTy m2 ∧ RE m2 := by
  obtain ⟨hR1, hM⟩ := hR
  obtain ⟨m1, v, b1, b2, t1, K⟩ := pb_order ht hR1 H
  obtain ⟨q1, q2, q3, q4, q5, q6⟩ := e_X7_order ht H
  obtain ⟨_, f1⟩ := eng_m b2 q4 q5 q6
  refine ⟨m1, v, b1, b2, t1, fun r2 h2 H2 => ?_⟩
  obtain ⟨m2, v2, d1, d2, t2, R2⟩ := K r2 h2 H2
  obtain ⟨u1, u2, u3, u4, u5, u6⟩ := e_X8_order t1 H2
  obtain ⟨_, f2⟩ := eng_m d2 u4 u5 u6
  exact ⟨m2, v2, d1, d2, t2, ⟨R2, zMk_e (zMk_e hM f1 (by decide +kernel)) f2 (by decide +kernel)⟩⟩
theorem pe_await {m : zM} {r : Option Value} {h' : zHp} {x0 x1 : Int32} (ht : zTy m) (hR : RE m) (H : zEv none 19 zm_X7_await (0, lv_args 0 [.ref 0, .int x0, .int x1], [], zhp m) r h') : ∃ m1 v, r = some (.int v) ∧ h' = zhp m1 ∧ zTy m1 ∧ ∀ r2 h2, zEv none 19 zm_X8_await (0, lv_args 0 [.ref 71, .int x0, .int x1], [], zhp m1) r2 h2 → ∃ m2 v2, r2 = some (.int v2) ∧ h2 = zhp m2 ∧ zTy m2 ∧ RE m2 := by
  obtain ⟨hR1, hM⟩ := hR
  obtain ⟨m1, v, b1, b2, t1, K⟩ := pb_await ht hR1 H
  obtain ⟨q1, q2, q3, q4, q5, q6⟩ := e_X7_await ht H
  obtain ⟨_, f1⟩ := eng_m b2 q4 q5 q6
  refine ⟨m1, v, b1, b2, t1, fun r2 h2 H2 => ?_⟩
  obtain ⟨m2, v2, d1, d2, t2, R2⟩ := K r2 h2 H2
  obtain ⟨u1, u2, u3, u4, u5, u6⟩ := e_X8_await t1 H2
  obtain ⟨_, f2⟩ := eng_m d2 u4 u5 u6
  exact ⟨m2, v2, d1, d2, t2, ⟨R2, zMk_e (zMk_e hM f1 (by decide +kernel)) f2 (by decide +kernel)⟩⟩
theorem pe_hands {m : zM} {r : Option Value} {h' : zHp} {x0 : Int32} (ht : zTy m) (hR : RE m) (H : zEv none 19 zm_X7_hands (0, lv_args 0 [.ref 0, .int x0], [], zhp m) r h') : ∃ m1 v, r = some (.int v) ∧ h' = zhp m1 ∧ zTy m1 ∧ ∀ r2 h2, zEv none 19 zm_X8_hands (0, lv_args 0 [.ref 71, .int x0], [], zhp m1) r2 h2 → ∃ m2 v2, r2 = some (.int v2) ∧ h2 = zhp m2 ∧ zTy m2 ∧ RE m2 := by
  obtain ⟨hR1, hM⟩ := hR
  obtain ⟨m1, v, b1, b2, t1, K⟩ := pb_hands ht hR1 H
  obtain ⟨q1, q2, q3, q4, q5, q6⟩ := e_X7_hands ht H
  obtain ⟨_, f1⟩ := eng_m b2 q4 q5 q6
  refine ⟨m1, v, b1, b2, t1, fun r2 h2 H2 => ?_⟩
  obtain ⟨m2, v2, d1, d2, t2, R2⟩ := K r2 h2 H2
  obtain ⟨u1, u2, u3, u4, u5, u6⟩ := e_X8_hands t1 H2
  obtain ⟨_, f2⟩ := eng_m d2 u4 u5 u6
  exact ⟨m2, v2, d1, d2, t2, ⟨R2, zMk_e (zMk_e hM f1 (by decide +kernel)) f2 (by decide +kernel)⟩⟩
theorem pe_clean {m : zM} {r : Option Value} {h' : zHp} {x0 : Int32} (ht : zTy m) (hR : RE m) (H : zEv none 19 zm_X7_clean (0, lv_args 0 [.ref 0, .int x0], [], zhp m) r h') : ∃ m1 v, r = some (.int v) ∧ h' = zhp m1 ∧ zTy m1 ∧ ∀ r2 h2, zEv none 19 zm_X8_clean (0, lv_args 0 [.ref 71, .int x0], [], zhp m1) r2 h2 → ∃ m2 v2, r2 = some (.int v2) ∧ h2 = zhp m2 ∧ zTy m2 ∧ RE m2 := by
  obtain ⟨hR1, hM⟩ := hR
  obtain ⟨m1, v, b1, b2, t1, K⟩ := pb_clean ht hR1 H
  obtain ⟨q1, q2, q3, q4, q5, q6⟩ := e_X7_clean ht H
  obtain ⟨_, f1⟩ := eng_m b2 q4 q5 q6
  refine ⟨m1, v, b1, b2, t1, fun r2 h2 H2 => ?_⟩
  obtain ⟨m2, v2, d1, d2, t2, R2⟩ := K r2 h2 H2
  obtain ⟨u1, u2, u3, u4, u5, u6⟩ := e_X8_clean t1 H2
  obtain ⟨_, f2⟩ := eng_m d2 u4 u5 u6
  exact ⟨m2, v2, d1, d2, t2, ⟨R2, zMk_e (zMk_e hM f1 (by decide +kernel)) f2 (by decide +kernel)⟩⟩
theorem pe_trade {m : zM} {r : Option Value} {h' : zHp} {x0 : Int32} (ht : zTy m) (hR : RE m) (H : zEv none 19 zm_X7_trade (0, lv_args 0 [.ref 0, .int x0], [], zhp m) r h') : ∃ m1 v, r = some (.int v) ∧ h' = zhp m1 ∧ zTy m1 ∧ ∀ r2 h2, zEv none 19 zm_X8_trade (0, lv_args 0 [.ref 71, .int x0], [], zhp m1) r2 h2 → ∃ m2 v2, r2 = some (.int v2) ∧ h2 = zhp m2 ∧ zTy m2 ∧ RE m2 := by
  obtain ⟨hR1, hM⟩ := hR
  obtain ⟨m1, v, b1, b2, t1, K⟩ := pb_trade ht hR1 H
  obtain ⟨q1, q2, q3, q4, q5, q6⟩ := e_X7_trade ht H
  obtain ⟨_, f1⟩ := eng_m b2 q4 q5 q6
  refine ⟨m1, v, b1, b2, t1, fun r2 h2 H2 => ?_⟩
  obtain ⟨m2, v2, d1, d2, t2, R2⟩ := K r2 h2 H2
  obtain ⟨u1, u2, u3, u4, u5, u6⟩ := e_X8_trade t1 H2
  obtain ⟨_, f2⟩ := eng_m d2 u4 u5 u6
  exact ⟨m2, v2, d1, d2, t2, ⟨R2, zMk_e (zMk_e hM f1 (by decide +kernel)) f2 (by decide +kernel)⟩⟩
theorem pe_loose {m : zM} {r : Option Value} {h' : zHp} (ht : zTy m) (hR : RE m) (H : zEv none 19 zm_X7_loose (0, lv_args 0 [.ref 0], [], zhp m) r h') : ∃ m1 v, r = some (.int v) ∧ h' = zhp m1 ∧ zTy m1 ∧ ∀ r2 h2, zEv none 19 zm_X8_loose (0, lv_args 0 [.ref 71], [], zhp m1) r2 h2 → ∃ m2 v2, r2 = some (.int v2) ∧ h2 = zhp m2 ∧ zTy m2 ∧ RE m2 := by
  obtain ⟨hR1, hM⟩ := hR
  obtain ⟨m1, v, b1, b2, t1, K⟩ := pb_loose ht hR1 H
  obtain ⟨q1, q2, q3, q4, q5, q6⟩ := e_X7_loose ht H
  obtain ⟨_, f1⟩ := eng_m b2 q4 q5 q6
  refine ⟨m1, v, b1, b2, t1, fun r2 h2 H2 => ?_⟩
  obtain ⟨m2, v2, d1, d2, t2, R2⟩ := K r2 h2 H2
  obtain ⟨u1, u2, u3, u4, u5, u6⟩ := e_X8_loose t1 H2
  obtain ⟨_, f2⟩ := eng_m d2 u4 u5 u6
  exact ⟨m2, v2, d1, d2, t2, ⟨R2, zMk_e (zMk_e hM f1 (by decide +kernel)) f2 (by decide +kernel)⟩⟩
theorem pe_mean {m : zM} {r : Option Value} {h' : zHp} {x0 x1 : Int32} (ht : zTy m) (hR : RE m) (H : zEv none 19 zm_X7_mean (0, lv_args 0 [.ref 0, .int x0, .int x1], [], zhp m) r h') : ∃ m1 v, r = some (.long v) ∧ h' = zhp m1 ∧ zTy m1 ∧ ∀ r2 h2, zEv none 19 zm_X8_mean (0, lv_args 0 [.ref 71, .int x0, .int x1], [], zhp m1) r2 h2 → ∃ m2 v2, r2 = some (.long v2) ∧ h2 = zhp m2 ∧ zTy m2 ∧ RE m2 := by
  obtain ⟨hR1, hM⟩ := hR
  obtain ⟨m1, v, b1, b2, t1, K⟩ := pb_mean ht hR1 H
  obtain ⟨q1, q2, q3, q4, q5, q6⟩ := e_X7_mean ht H
  obtain ⟨_, f1⟩ := eng_m b2 q4 q5 q6
  refine ⟨m1, v, b1, b2, t1, fun r2 h2 H2 => ?_⟩
  obtain ⟨m2, v2, d1, d2, t2, R2⟩ := K r2 h2 H2
  obtain ⟨u1, u2, u3, u4, u5, u6⟩ := e_X8_mean t1 H2
  obtain ⟨_, f2⟩ := eng_m d2 u4 u5 u6
  exact ⟨m2, v2, d1, d2, t2, ⟨R2, zMk_e (zMk_e hM f1 (by decide +kernel)) f2 (by decide +kernel)⟩⟩
theorem pe_luck {m : zM} {r : Option Value} {h' : zHp} {x0 x1 x2 : Int32} (ht : zTy m) (hR : RE m) (H : zEv none 19 zm_X7_luck (0, lv_args 0 [.ref 0, .int x0, .int x1, .int x2], [], zhp m) r h') : ∃ m1 v, r = some (.long v) ∧ h' = zhp m1 ∧ zTy m1 ∧ ∀ r2 h2, zEv none 19 zm_X8_luck (0, lv_args 0 [.ref 71, .int x0, .int x1, .int x2], [], zhp m1) r2 h2 → ∃ m2 v2, r2 = some (.long v2) ∧ h2 = zhp m2 ∧ zTy m2 ∧ RE m2 := by
  obtain ⟨hR1, hM⟩ := hR
  obtain ⟨m1, v, b1, b2, t1, K⟩ := pb_luck ht hR1 H
  obtain ⟨q1, q2, q3, q4, q5, q6⟩ := e_X7_luck ht H
  obtain ⟨_, f1⟩ := eng_m b2 q4 q5 q6
  refine ⟨m1, v, b1, b2, t1, fun r2 h2 H2 => ?_⟩
  obtain ⟨m2, v2, d1, d2, t2, R2⟩ := K r2 h2 H2
  obtain ⟨u1, u2, u3, u4, u5, u6⟩ := e_X8_luck t1 H2
  obtain ⟨_, f2⟩ := eng_m d2 u4 u5 u6
  exact ⟨m2, v2, d1, d2, t2, ⟨R2, zMk_e (zMk_e hM f1 (by decide +kernel)) f2 (by decide +kernel)⟩⟩
theorem pe_see {m : zM} {r : Option Value} {h' : zHp} {x0 x1 : Int32} (ht : zTy m) (hR : RE m) (H : zEv none 19 zm_X7_see (0, lv_args 0 [.ref 0, .int x0, .int x1], [], zhp m) r h') : ∃ m1 v, r = some (.int v) ∧ h' = zhp m1 ∧ zTy m1 ∧ ∀ r2 h2, zEv none 19 zm_X8_see (0, lv_args 0 [.ref 71, .int x0, .int x1], [], zhp m1) r2 h2 → ∃ m2 v2, r2 = some (.int v2) ∧ h2 = zhp m2 ∧ zTy m2 ∧ RE m2 ∧ v = v2 := by
  obtain ⟨hR1, hM⟩ := hR
  obtain ⟨m1, v, b1, b2, t1, K⟩ := pb_see ht hR1 H
  obtain ⟨q1, q2, q3, q4, q5, q6⟩ := e_X7_see ht H
  obtain ⟨_, f1⟩ := eng_m b2 q4 q5 q6
  refine ⟨m1, v, b1, b2, t1, fun r2 h2 H2 => ?_⟩
  obtain ⟨m2, v2, d1, d2, t2, R2, e⟩ := K r2 h2 H2
  obtain ⟨u1, u2, u3, u4, u5, u6⟩ := e_X8_see t1 H2
  obtain ⟨_, f2⟩ := eng_m d2 u4 u5 u6
  exact ⟨m2, v2, d1, d2, t2, ⟨R2, zMk_e (zMk_e hM f1 (by decide +kernel)) f2 (by decide +kernel)⟩, e⟩
theorem pe_forget {m : zM} {r : Option Value} {h' : zHp} {x0 : Int32} (ht : zTy m) (hR : RE m) (H : zEv none 19 zm_X7_forget (0, lv_args 0 [.ref 0, .int x0], [], zhp m) r h') : ∃ m1 v, r = some (.int v) ∧ h' = zhp m1 ∧ zTy m1 ∧ ∀ r2 h2, zEv none 19 zm_X8_forget (0, lv_args 0 [.ref 71, .int x0], [], zhp m1) r2 h2 → ∃ m2 v2, r2 = some (.int v2) ∧ h2 = zhp m2 ∧ zTy m2 ∧ RE m2 ∧ v = v2 := by
  obtain ⟨hR1, hM⟩ := hR
  obtain ⟨m1, v, b1, b2, t1, K⟩ := pb_forget ht hR1 H
  obtain ⟨q1, q2, q3, q4, q5, q6⟩ := e_X7_forget ht H
  obtain ⟨_, f1⟩ := eng_m b2 q4 q5 q6
  refine ⟨m1, v, b1, b2, t1, fun r2 h2 H2 => ?_⟩
  obtain ⟨m2, v2, d1, d2, t2, R2, e⟩ := K r2 h2 H2
  obtain ⟨u1, u2, u3, u4, u5, u6⟩ := e_X8_forget t1 H2
  obtain ⟨_, f2⟩ := eng_m d2 u4 u5 u6
  exact ⟨m2, v2, d1, d2, t2, ⟨R2, zMk_e (zMk_e hM f1 (by decide +kernel)) f2 (by decide +kernel)⟩, e⟩
theorem pe_counts {m : zM} {r : Option Value} {h' : zHp} {x0 x1 : Int32} (ht : zTy m) (hR : RE m) (H : zEv none 19 zm_X7_counts (0, lv_args 0 [.ref 0, .int x0, .int x1], [], zhp m) r h') : ∃ m1 v, r = some (.int v) ∧ h' = zhp m1 ∧ zTy m1 ∧ ∀ r2 h2, zEv none 19 zm_X8_counts (0, lv_args 0 [.ref 71, .int x0, .int x1], [], zhp m1) r2 h2 → ∃ m2 v2, r2 = some (.int v2) ∧ h2 = zhp m2 ∧ zTy m2 ∧ RE m2 := by
  obtain ⟨hR1, hM⟩ := hR
  obtain ⟨m1, v, b1, b2, t1, K⟩ := pb_counts ht hR1 H
  obtain ⟨q1, q2, q3, q4, q5, q6⟩ := e_X7_counts ht H
  obtain ⟨_, f1⟩ := eng_m b2 q4 q5 q6
  refine ⟨m1, v, b1, b2, t1, fun r2 h2 H2 => ?_⟩
  obtain ⟨m2, v2, d1, d2, t2, R2⟩ := K r2 h2 H2
  obtain ⟨u1, u2, u3, u4, u5, u6⟩ := e_X8_counts t1 H2
  obtain ⟨_, f2⟩ := eng_m d2 u4 u5 u6
  exact ⟨m2, v2, d1, d2, t2, ⟨R2, zMk_e (zMk_e hM f1 (by decide +kernel)) f2 (by decide +kernel)⟩⟩
theorem pe_slacks {m : zM} {r : Option Value} {h' : zHp} (ht : zTy m) (hR : RE m) (H : zEv none 19 zm_X7_slacks (0, lv_args 0 [.ref 0], [], zhp m) r h') : ∃ m1 v, r = some (.int v) ∧ h' = zhp m1 ∧ zTy m1 ∧ ∀ r2 h2, zEv none 19 zm_X8_slacks (0, lv_args 0 [.ref 71], [], zhp m1) r2 h2 → ∃ m2 v2, r2 = some (.int v2) ∧ h2 = zhp m2 ∧ zTy m2 ∧ RE m2 := by
  obtain ⟨hR1, hM⟩ := hR
  obtain ⟨m1, v, b1, b2, t1, K⟩ := pb_slacks ht hR1 H
  obtain ⟨q1, q2, q3, q4, q5, q6⟩ := e_X7_slacks ht H
  obtain ⟨_, f1⟩ := eng_m b2 q4 q5 q6
  refine ⟨m1, v, b1, b2, t1, fun r2 h2 H2 => ?_⟩
  obtain ⟨m2, v2, d1, d2, t2, R2⟩ := K r2 h2 H2
  obtain ⟨u1, u2, u3, u4, u5, u6⟩ := e_X8_slacks t1 H2
  obtain ⟨_, f2⟩ := eng_m d2 u4 u5 u6
  exact ⟨m2, v2, d1, d2, t2, ⟨R2, zMk_e (zMk_e hM f1 (by decide +kernel)) f2 (by decide +kernel)⟩⟩
theorem pe_look {m : zM} {r : Option Value} {h' : zHp} {x0 x1 : Int32} (ht : zTy m) (hR : RE m) (H : zEv none 19 zm_X7_look (0, lv_args 0 [.ref 0, .int x0, .int x1], [], zhp m) r h') : ∃ m1 v, r = some (.int v) ∧ h' = zhp m1 ∧ zTy m1 ∧ ∀ r2 h2, zEv none 19 zm_X8_look (0, lv_args 0 [.ref 71, .int x0, .int x1], [], zhp m1) r2 h2 → ∃ m2 v2, r2 = some (.int v2) ∧ h2 = zhp m2 ∧ zTy m2 ∧ RE m2 := by
  obtain ⟨hR1, hM⟩ := hR
  obtain ⟨m1, v, b1, b2, t1, K⟩ := pb_look ht hR1 H
  obtain ⟨q1, q2, q3, q4, q5, q6⟩ := e_X7_look ht H
  obtain ⟨_, f1⟩ := eng_m b2 q4 q5 q6
  refine ⟨m1, v, b1, b2, t1, fun r2 h2 H2 => ?_⟩
  obtain ⟨m2, v2, d1, d2, t2, R2⟩ := K r2 h2 H2
  obtain ⟨u1, u2, u3, u4, u5, u6⟩ := e_X8_look t1 H2
  obtain ⟨_, f2⟩ := eng_m d2 u4 u5 u6
  exact ⟨m2, v2, d1, d2, t2, ⟨R2, zMk_e (zMk_e hM f1 (by decide +kernel)) f2 (by decide +kernel)⟩⟩
theorem pe_drift {m : zM} {r : Option Value} {h' : zHp} {x0 x1 x2 : Int32} (ht : zTy m) (hR : RE m) (H : zEv none 19 zm_X7_drift (0, lv_args 0 [.ref 0, .int x0, .int x1, .int x2], [], zhp m) r h') : ∃ m1 v, r = some (.int v) ∧ h' = zhp m1 ∧ zTy m1 ∧ ∀ r2 h2, zEv none 19 zm_X8_drift (0, lv_args 0 [.ref 71, .int x0, .int x1, .int x2], [], zhp m1) r2 h2 → ∃ m2 v2, r2 = some (.int v2) ∧ h2 = zhp m2 ∧ zTy m2 ∧ RE m2 := by
  obtain ⟨hR1, hM⟩ := hR
  obtain ⟨m1, v, b1, b2, t1, K⟩ := pb_drift ht hR1 H
  obtain ⟨q1, q2, q3, q4, q5, q6⟩ := e_X7_drift ht H
  obtain ⟨_, f1⟩ := eng_m b2 q4 q5 q6
  refine ⟨m1, v, b1, b2, t1, fun r2 h2 H2 => ?_⟩
  obtain ⟨m2, v2, d1, d2, t2, R2⟩ := K r2 h2 H2
  obtain ⟨u1, u2, u3, u4, u5, u6⟩ := e_X8_drift t1 H2
  obtain ⟨_, f2⟩ := eng_m d2 u4 u5 u6
  exact ⟨m2, v2, d1, d2, t2, ⟨R2, zMk_e (zMk_e hM f1 (by decide +kernel)) f2 (by decide +kernel)⟩⟩
theorem pe_keep {m : zM} {r : Option Value} {h' : zHp} {x0 : Int32} (ht : zTy m) (hR : RE m) (H : zEv none 19 zm_X7_keep (0, lv_args 0 [.ref 0, .int x0], [], zhp m) r h') : ∃ m1 v, r = some (.int v) ∧ h' = zhp m1 ∧ zTy m1 ∧ ∀ r2 h2, zEv none 19 zm_X8_keep (0, lv_args 0 [.ref 71, .int x0], [], zhp m1) r2 h2 → ∃ m2 v2, r2 = some (.int v2) ∧ h2 = zhp m2 ∧ zTy m2 ∧ RE m2 ∧ v = v2 := by
  obtain ⟨hR1, hM⟩ := hR
  obtain ⟨m1, v, b1, b2, t1, K⟩ := pb_keep ht hR1 H
  obtain ⟨q1, q2, q3, q4, q5, q6⟩ := e_X7_keep ht H
  obtain ⟨_, f1⟩ := eng_m b2 q4 q5 q6
  refine ⟨m1, v, b1, b2, t1, fun r2 h2 H2 => ?_⟩
  obtain ⟨m2, v2, d1, d2, t2, R2, e⟩ := K r2 h2 H2
  obtain ⟨u1, u2, u3, u4, u5, u6⟩ := e_X8_keep t1 H2
  obtain ⟨_, f2⟩ := eng_m d2 u4 u5 u6
  exact ⟨m2, v2, d1, d2, t2, ⟨R2, zMk_e (zMk_e hM f1 (by decide +kernel)) f2 (by decide +kernel)⟩, e⟩
theorem pe_back {m : zM} {r : Option Value} {h' : zHp} {x0 : Int32} (ht : zTy m) (hR : RE m) (H : zEv none 19 zm_X7_back (0, lv_args 0 [.ref 0, .int x0], [], zhp m) r h') : ∃ m1 v, r = some (.int v) ∧ h' = zhp m1 ∧ zTy m1 ∧ ∀ r2 h2, zEv none 19 zm_X8_back (0, lv_args 0 [.ref 71, .int x0], [], zhp m1) r2 h2 → ∃ m2 v2, r2 = some (.int v2) ∧ h2 = zhp m2 ∧ zTy m2 ∧ RE m2 := by
  obtain ⟨hR1, hM⟩ := hR
  obtain ⟨m1, v, b1, b2, t1, K⟩ := pb_back ht hR1 H
  obtain ⟨q1, q2, q3, q4, q5, q6⟩ := e_X7_back ht H
  obtain ⟨_, f1⟩ := eng_m b2 q4 q5 q6
  refine ⟨m1, v, b1, b2, t1, fun r2 h2 H2 => ?_⟩
  obtain ⟨m2, v2, d1, d2, t2, R2⟩ := K r2 h2 H2
  obtain ⟨u1, u2, u3, u4, u5, u6⟩ := e_X8_back t1 H2
  obtain ⟨_, f2⟩ := eng_m d2 u4 u5 u6
  exact ⟨m2, v2, d1, d2, t2, ⟨R2, zMk_e (zMk_e hM f1 (by decide +kernel)) f2 (by decide +kernel)⟩⟩
theorem pe_sheet {m : zM} {r : Option Value} {h' : zHp} {x0 x1 x2 : Int32} (ht : zTy m) (hR : RE m) (H : zEv none 19 zm_X7_sheet (0, lv_args 0 [.ref 0, .int x0, .int x1, .int x2], [], zhp m) r h') : ∃ m1 v, r = some (.int v) ∧ h' = zhp m1 ∧ zTy m1 ∧ ∀ r2 h2, zEv none 19 zm_X8_sheet (0, lv_args 0 [.ref 71, .int x0, .int x1, .int x2], [], zhp m1) r2 h2 → ∃ m2 v2, r2 = some (.int v2) ∧ h2 = zhp m2 ∧ zTy m2 ∧ RE m2 := by
  obtain ⟨hR1, hM⟩ := hR
  obtain ⟨m1, v, b1, b2, t1, K⟩ := pb_sheet ht hR1 H
  obtain ⟨q1, q2, q3, q4, q5, q6⟩ := e_X7_sheet ht H
  obtain ⟨_, f1⟩ := eng_m b2 q4 q5 q6
  refine ⟨m1, v, b1, b2, t1, fun r2 h2 H2 => ?_⟩
  obtain ⟨m2, v2, d1, d2, t2, R2⟩ := K r2 h2 H2
  obtain ⟨u1, u2, u3, u4, u5, u6⟩ := e_X8_sheet t1 H2
  obtain ⟨_, f2⟩ := eng_m d2 u4 u5 u6
  exact ⟨m2, v2, d1, d2, t2, ⟨R2, zMk_e (zMk_e hM f1 (by decide +kernel)) f2 (by decide +kernel)⟩⟩
theorem pe_lay {m : zM} {r : Option Value} {h' : zHp} {x0 x1 x2 : Int32} (ht : zTy m) (hR : RE m) (H : zEv none 19 zm_X7_lay (0, lv_args 0 [.ref 0, .int x0, .int x1, .int x2], [], zhp m) r h') : ∃ m1 v, r = some (.int v) ∧ h' = zhp m1 ∧ zTy m1 ∧ ∀ r2 h2, zEv none 19 zm_X8_lay (0, lv_args 0 [.ref 71, .int x0, .int x1, .int x2], [], zhp m1) r2 h2 → ∃ m2 v2, r2 = some (.int v2) ∧ h2 = zhp m2 ∧ zTy m2 ∧ RE m2 := by
  obtain ⟨hR1, hM⟩ := hR
  obtain ⟨m1, v, b1, b2, t1, K⟩ := pb_lay ht hR1 H
  obtain ⟨q1, q2, q3, q4, q5, q6⟩ := e_X7_lay ht H
  obtain ⟨_, f1⟩ := eng_m b2 q4 q5 q6
  refine ⟨m1, v, b1, b2, t1, fun r2 h2 H2 => ?_⟩
  obtain ⟨m2, v2, d1, d2, t2, R2⟩ := K r2 h2 H2
  obtain ⟨u1, u2, u3, u4, u5, u6⟩ := e_X8_lay t1 H2
  obtain ⟨_, f2⟩ := eng_m d2 u4 u5 u6
  exact ⟨m2, v2, d1, d2, t2, ⟨R2, zMk_e (zMk_e hM f1 (by decide +kernel)) f2 (by decide +kernel)⟩⟩
theorem pe_torn {m : zM} {r : Option Value} {h' : zHp} (ht : zTy m) (hR : RE m) (H : zEv none 19 zm_X7_torn (0, lv_args 0 [.ref 0], [], zhp m) r h') : ∃ m1 v, r = some (.int v) ∧ h' = zhp m1 ∧ zTy m1 ∧ ∀ r2 h2, zEv none 19 zm_X8_torn (0, lv_args 0 [.ref 71], [], zhp m1) r2 h2 → ∃ m2 v2, r2 = some (.int v2) ∧ h2 = zhp m2 ∧ zTy m2 ∧ RE m2 := by
  obtain ⟨hR1, hM⟩ := hR
  obtain ⟨m1, v, b1, b2, t1, K⟩ := pb_torn ht hR1 H
  obtain ⟨q1, q2, q3, q4, q5, q6⟩ := e_X7_torn ht H
  obtain ⟨_, f1⟩ := eng_m b2 q4 q5 q6
  refine ⟨m1, v, b1, b2, t1, fun r2 h2 H2 => ?_⟩
  obtain ⟨m2, v2, d1, d2, t2, R2⟩ := K r2 h2 H2
  obtain ⟨u1, u2, u3, u4, u5, u6⟩ := e_X8_torn t1 H2
  obtain ⟨_, f2⟩ := eng_m d2 u4 u5 u6
  exact ⟨m2, v2, d1, d2, t2, ⟨R2, zMk_e (zMk_e hM f1 (by decide +kernel)) f2 (by decide +kernel)⟩⟩
theorem pe_count {m : zM} {r : Option Value} {h' : zHp} {x0 : Int32} (ht : zTy m) (hR : RE m) (H : zEv none 19 zm_X7_count (0, lv_args 0 [.ref 0, .int x0], [], zhp m) r h') : ∃ m1 v, r = some (.int v) ∧ h' = zhp m1 ∧ zTy m1 ∧ ∀ r2 h2, zEv none 19 zm_X8_count (0, lv_args 0 [.ref 71, .int x0], [], zhp m1) r2 h2 → ∃ m2 v2, r2 = some (.int v2) ∧ h2 = zhp m2 ∧ zTy m2 ∧ RE m2 := by
  obtain ⟨hR1, hM⟩ := hR
  obtain ⟨m1, v, b1, b2, t1, K⟩ := pb_count ht hR1 H
  obtain ⟨q1, q2, q3, q4, q5, q6⟩ := e_X7_count ht H
  obtain ⟨_, f1⟩ := eng_m b2 q4 q5 q6
  refine ⟨m1, v, b1, b2, t1, fun r2 h2 H2 => ?_⟩
  obtain ⟨m2, v2, d1, d2, t2, R2⟩ := K r2 h2 H2
  obtain ⟨u1, u2, u3, u4, u5, u6⟩ := e_X8_count t1 H2
  obtain ⟨_, f2⟩ := eng_m d2 u4 u5 u6
  exact ⟨m2, v2, d1, d2, t2, ⟨R2, zMk_e (zMk_e hM f1 (by decide +kernel)) f2 (by decide +kernel)⟩⟩
theorem pe_read {m : zM} {r : Option Value} {h' : zHp} {x0 x1 x2 x3 : Int32} (ht : zTy m) (hR : RE m) (H : zEv none 19 zm_X7_read (0, lv_args 0 [.ref 0, .int x0, .int x1, .int x2, .int x3], [], zhp m) r h') : ∃ m1 v, r = some (.int v) ∧ h' = zhp m1 ∧ zTy m1 ∧ ∀ r2 h2, zEv none 19 zm_X8_read (0, lv_args 0 [.ref 71, .int x0, .int x1, .int x2, .int x3], [], zhp m1) r2 h2 → ∃ m2 v2, r2 = some (.int v2) ∧ h2 = zhp m2 ∧ zTy m2 ∧ RE m2 := by
  obtain ⟨hR1, hM⟩ := hR
  obtain ⟨m1, v, a1, a2, a3, a4⟩ := e_X7_read ht H
  have R1 : RB m1 := RB_f hR1 a4 (by decide +kernel)
  have M1 : zMk m1 := zMk_e hM a4 (by decide +kernel)
  refine ⟨m1, v, a1, a2, a3, fun r2 h2 H2 => ?_⟩
  obtain ⟨m2, v2, b1, b2, b3, b4⟩ := e_X8_read a3 H2
  refine ⟨m2, v2, b1, b2, b3, RB_e R1 (fun k i hk hi q => ?_), zMk_e M1 b4 (by decide +kernel)⟩
  by_cases h : k = 72 ∧ i < 27
  · obtain ⟨rfl, h⟩ := h
    obtain ⟨_, ⟨c, c5, _, c3, _⟩, _⟩ := R1
    obtain ⟨m3, x1, x2⟩ := t_X8_readb (g := fun j => m1 72 (0 + j)) ⟨by omega, fun _ _ => rfl⟩ (gok_ty a3 c5) c3 M1 (zE_of 3 rfl H2)
    have e : m2 72 i = m3 72 i := zhp_inj (b2.symm.trans x1) (zpl_r LY_72 (by omega))
    simp only [qB, qT, qpv, Bool.or_eq_true, Bool.and_eq_true, Nat.beq_eq, Nat.blt_eq, Nat.ble_eq] at q
    rw [e, x2 i (by omega) (by omega) h, Nat.zero_add]
  · refine zq_x (q := qB) (q2 := qBr) (fun k i h => ?_) qB_p (by decide +kernel) b4 k i hk hi ?_
    · simp only [qBr, Bool.and_eq_true] at h
      exact h.1
    · simp only [qBr, Bool.and_eq_true, Bool.not_eq_true', Bool.and_eq_false_iff]
      refine ⟨q, ?_⟩
      by_cases hk7 : k = 72
      · right
        cases hb : Nat.blt i 27 with
        | false => rfl
        | true => rw [Nat.blt_eq] at hb; exact absurd ⟨hk7, hb⟩ h
      · left
        cases hb : Nat.beq k 72 with
        | false => rfl
        | true => rw [Nat.beq_eq] at hb; exact absurd hb hk7
