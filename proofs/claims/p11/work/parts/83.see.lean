/-! see -/
theorem It_X6_note : zm_X6_note.2.2.2.2.2 = zt_X6_note := by
  unfold zm_X6_note
  rfl
theorem It_X7_see : zm_X7_see.2.2.2.2.2 = zt_X7_see := by
  unfold zm_X7_see
  rfl
theorem It_X8_see : zm_X8_see.2.2.2.2.2 = zt_X8_see := by
  unfold zm_X8_see
  rfl
theorem I_X6_note_0 : zin zm_X6_note.2.2.2.2.2 0 = some (.aload_n 0, 1) := by rw [It_X6_note]; rfl
theorem I_X6_note_1 : zin zm_X6_note.2.2.2.2.2 1 = some (.getfield 9, 3) := by rw [It_X6_note]; rfl
theorem I_X6_note_4 : zin zm_X6_note.2.2.2.2.2 4 = some (.aload_n 0, 1) := by rw [It_X6_note]; rfl
theorem I_X6_note_5 : zin zm_X6_note.2.2.2.2.2 5 = some (.getfield 21, 3) := by rw [It_X6_note]; rfl
theorem I_X6_note_8 : zin zm_X6_note.2.2.2.2.2 8 = some (.iload_n 1, 1) := by rw [It_X6_note]; rfl
theorem I_X6_note_9 : zin zm_X6_note.2.2.2.2.2 9 = some (.iastore, 1) := by rw [It_X6_note]; rfl
theorem I_X6_note_10 : zin zm_X6_note.2.2.2.2.2 10 = some (.aload_n 0, 1) := by rw [It_X6_note]; rfl
theorem I_X6_note_11 : zin zm_X6_note.2.2.2.2.2 11 = some (.getfield 15, 3) := by rw [It_X6_note]; rfl
theorem I_X6_note_14 : zin zm_X6_note.2.2.2.2.2 14 = some (.aload_n 0, 1) := by rw [It_X6_note]; rfl
theorem I_X6_note_15 : zin zm_X6_note.2.2.2.2.2 15 = some (.getfield 21, 3) := by rw [It_X6_note]; rfl
theorem I_X6_note_18 : zin zm_X6_note.2.2.2.2.2 18 = some (.iload_n 2, 1) := by rw [It_X6_note]; rfl
theorem I_X6_note_19 : zin zm_X6_note.2.2.2.2.2 19 = some (.iastore, 1) := by rw [It_X6_note]; rfl
theorem I_X6_note_20 : zin zm_X6_note.2.2.2.2.2 20 = some (.aload_n 0, 1) := by rw [It_X6_note]; rfl
theorem I_X6_note_21 : zin zm_X6_note.2.2.2.2.2 21 = some (.dup, 1) := by rw [It_X6_note]; rfl
theorem I_X6_note_22 : zin zm_X6_note.2.2.2.2.2 22 = some (.getfield 21, 3) := by rw [It_X6_note]; rfl
theorem I_X6_note_25 : zin zm_X6_note.2.2.2.2.2 25 = some (.iconst 1, 1) := by rw [It_X6_note]; rfl
theorem I_X6_note_26 : zin zm_X6_note.2.2.2.2.2 26 = some (.iadd, 1) := by rw [It_X6_note]; rfl
theorem I_X6_note_27 : zin zm_X6_note.2.2.2.2.2 27 = some (.putfield 21, 3) := by rw [It_X6_note]; rfl
theorem I_X6_note_30 : zin zm_X6_note.2.2.2.2.2 30 = some (.return_, 1) := by rw [It_X6_note]; rfl
theorem I_X7_see_0 : zin zm_X7_see.2.2.2.2.2 0 = some (.iload_n 1, 1) := by rw [It_X7_see]; rfl
theorem I_X7_see_1 : zin zm_X7_see.2.2.2.2.2 1 = some (.ifCond .lt 26, 3) := by rw [It_X7_see]; rfl
theorem I_X7_see_4 : zin zm_X7_see.2.2.2.2.2 4 = some (.iload_n 1, 1) := by rw [It_X7_see]; rfl
theorem I_X7_see_5 : zin zm_X7_see.2.2.2.2.2 5 = some (.bipush 8, 2) := by rw [It_X7_see]; rfl
theorem I_X7_see_7 : zin zm_X7_see.2.2.2.2.2 7 = some (.if_icmp .ge 20, 3) := by rw [It_X7_see]; rfl
theorem I_X7_see_10 : zin zm_X7_see.2.2.2.2.2 10 = some (.iload_n 2, 1) := by rw [It_X7_see]; rfl
theorem I_X7_see_11 : zin zm_X7_see.2.2.2.2.2 11 = some (.bipush (-4), 2) := by rw [It_X7_see]; rfl
theorem I_X7_see_13 : zin zm_X7_see.2.2.2.2.2 13 = some (.if_icmp .eq 16, 3) := by rw [It_X7_see]; rfl
theorem I_X7_see_16 : zin zm_X7_see.2.2.2.2.2 16 = some (.aload_n 0, 1) := by rw [It_X7_see]; rfl
theorem I_X7_see_17 : zin zm_X7_see.2.2.2.2.2 17 = some (.getfield 19, 3) := by rw [It_X7_see]; rfl
theorem I_X7_see_20 : zin zm_X7_see.2.2.2.2.2 20 = some (.iload_n 2, 1) := by rw [It_X7_see]; rfl
theorem I_X7_see_21 : zin zm_X7_see.2.2.2.2.2 21 = some (.invokevirtual 112, 3) := by rw [It_X7_see]; rfl
theorem I_X7_see_24 : zin zm_X7_see.2.2.2.2.2 24 = some (.ifCond .ne 5, 3) := by rw [It_X7_see]; rfl
theorem I_X7_see_27 : zin zm_X7_see.2.2.2.2.2 27 = some (.iconst (-1), 1) := by rw [It_X7_see]; rfl
theorem I_X7_see_28 : zin zm_X7_see.2.2.2.2.2 28 = some (.ireturn, 1) := by rw [It_X7_see]; rfl
theorem I_X7_see_29 : zin zm_X7_see.2.2.2.2.2 29 = some (.aload_n 0, 1) := by rw [It_X7_see]; rfl
theorem I_X7_see_30 : zin zm_X7_see.2.2.2.2.2 30 = some (.getfield 40, 3) := by rw [It_X7_see]; rfl
theorem I_X7_see_33 : zin zm_X7_see.2.2.2.2.2 33 = some (.getfield 81, 3) := by rw [It_X7_see]; rfl
theorem I_X7_see_36 : zin zm_X7_see.2.2.2.2.2 36 = some (.bipush 6, 2) := by rw [It_X7_see]; rfl
theorem I_X7_see_38 : zin zm_X7_see.2.2.2.2.2 38 = some (.if_icmp .lt 6, 3) := by rw [It_X7_see]; rfl
theorem I_X7_see_41 : zin zm_X7_see.2.2.2.2.2 41 = some (.bipush (-3), 2) := by rw [It_X7_see]; rfl
theorem I_X7_see_43 : zin zm_X7_see.2.2.2.2.2 43 = some (.ireturn, 1) := by rw [It_X7_see]; rfl
theorem I_X7_see_44 : zin zm_X7_see.2.2.2.2.2 44 = some (.aload_n 0, 1) := by rw [It_X7_see]; rfl
theorem I_X7_see_45 : zin zm_X7_see.2.2.2.2.2 45 = some (.getfield 40, 3) := by rw [It_X7_see]; rfl
theorem I_X7_see_48 : zin zm_X7_see.2.2.2.2.2 48 = some (.iload_n 1, 1) := by rw [It_X7_see]; rfl
theorem I_X7_see_49 : zin zm_X7_see.2.2.2.2.2 49 = some (.iload_n 2, 1) := by rw [It_X7_see]; rfl
theorem I_X7_see_50 : zin zm_X7_see.2.2.2.2.2 50 = some (.invokevirtual 240, 3) := by rw [It_X7_see]; rfl
theorem I_X7_see_53 : zin zm_X7_see.2.2.2.2.2 53 = some (.aload_n 0, 1) := by rw [It_X7_see]; rfl
theorem I_X7_see_54 : zin zm_X7_see.2.2.2.2.2 54 = some (.getfield 40, 3) := by rw [It_X7_see]; rfl
theorem I_X7_see_57 : zin zm_X7_see.2.2.2.2.2 57 = some (.getfield 81, 3) := by rw [It_X7_see]; rfl
theorem I_X7_see_60 : zin zm_X7_see.2.2.2.2.2 60 = some (.ireturn, 1) := by rw [It_X7_see]; rfl
theorem I_X8_see_0 : zin zm_X8_see.2.2.2.2.2 0 = some (.iload_n 1, 1) := by rw [It_X8_see]; rfl
theorem I_X8_see_1 : zin zm_X8_see.2.2.2.2.2 1 = some (.i2l, 1) := by rw [It_X8_see]; rfl
theorem I_X8_see_2 : zin zm_X8_see.2.2.2.2.2 2 = some (.lconst 0, 1) := by rw [It_X8_see]; rfl
theorem I_X8_see_3 : zin zm_X8_see.2.2.2.2.2 3 = some (.ldc2_w 230, 3) := by rw [It_X8_see]; rfl
theorem I_X8_see_6 : zin zm_X8_see.2.2.2.2.2 6 = some (.invokestatic 55, 3) := by rw [It_X8_see]; rfl
theorem I_X8_see_9 : zin zm_X8_see.2.2.2.2.2 9 = some (.ifCond .eq 17, 3) := by rw [It_X8_see]; rfl
theorem I_X8_see_12 : zin zm_X8_see.2.2.2.2.2 12 = some (.iload_n 2, 1) := by rw [It_X8_see]; rfl
theorem I_X8_see_13 : zin zm_X8_see.2.2.2.2.2 13 = some (.bipush (-4), 2) := by rw [It_X8_see]; rfl
theorem I_X8_see_15 : zin zm_X8_see.2.2.2.2.2 15 = some (.if_icmp .eq 13, 3) := by rw [It_X8_see]; rfl
theorem I_X8_see_18 : zin zm_X8_see.2.2.2.2.2 18 = some (.aload_n 0, 1) := by rw [It_X8_see]; rfl
theorem I_X8_see_19 : zin zm_X8_see.2.2.2.2.2 19 = some (.iload_n 2, 1) := by rw [It_X8_see]; rfl
theorem I_X8_see_20 : zin zm_X8_see.2.2.2.2.2 20 = some (.invokevirtual 151, 3) := by rw [It_X8_see]; rfl
theorem I_X8_see_23 : zin zm_X8_see.2.2.2.2.2 23 = some (.ifCond .ne 5, 3) := by rw [It_X8_see]; rfl
theorem I_X8_see_26 : zin zm_X8_see.2.2.2.2.2 26 = some (.iconst (-1), 1) := by rw [It_X8_see]; rfl
theorem I_X8_see_27 : zin zm_X8_see.2.2.2.2.2 27 = some (.ireturn, 1) := by rw [It_X8_see]; rfl
theorem I_X8_see_28 : zin zm_X8_see.2.2.2.2.2 28 = some (.aload_n 0, 1) := by rw [It_X8_see]; rfl
theorem I_X8_see_29 : zin zm_X8_see.2.2.2.2.2 29 = some (.getfield 134, 3) := by rw [It_X8_see]; rfl
theorem I_X8_see_32 : zin zm_X8_see.2.2.2.2.2 32 = some (.bipush 6, 2) := by rw [It_X8_see]; rfl
theorem I_X8_see_34 : zin zm_X8_see.2.2.2.2.2 34 = some (.if_icmp .ne 6, 3) := by rw [It_X8_see]; rfl
theorem I_X8_see_37 : zin zm_X8_see.2.2.2.2.2 37 = some (.bipush (-3), 2) := by rw [It_X8_see]; rfl
theorem I_X8_see_39 : zin zm_X8_see.2.2.2.2.2 39 = some (.ireturn, 1) := by rw [It_X8_see]; rfl
theorem I_X8_see_40 : zin zm_X8_see.2.2.2.2.2 40 = some (.aload_n 0, 1) := by rw [It_X8_see]; rfl
theorem I_X8_see_41 : zin zm_X8_see.2.2.2.2.2 41 = some (.getfield 31, 3) := by rw [It_X8_see]; rfl
theorem I_X8_see_44 : zin zm_X8_see.2.2.2.2.2 44 = some (.iconst 2, 1) := by rw [It_X8_see]; rfl
theorem I_X8_see_45 : zin zm_X8_see.2.2.2.2.2 45 = some (.aload_n 0, 1) := by rw [It_X8_see]; rfl
theorem I_X8_see_46 : zin zm_X8_see.2.2.2.2.2 46 = some (.getfield 134, 3) := by rw [It_X8_see]; rfl
theorem I_X8_see_49 : zin zm_X8_see.2.2.2.2.2 49 = some (.imul, 1) := by rw [It_X8_see]; rfl
theorem I_X8_see_50 : zin zm_X8_see.2.2.2.2.2 50 = some (.iload_n 1, 1) := by rw [It_X8_see]; rfl
theorem I_X8_see_51 : zin zm_X8_see.2.2.2.2.2 51 = some (.iastore, 1) := by rw [It_X8_see]; rfl
theorem I_X8_see_52 : zin zm_X8_see.2.2.2.2.2 52 = some (.aload_n 0, 1) := by rw [It_X8_see]; rfl
theorem I_X8_see_53 : zin zm_X8_see.2.2.2.2.2 53 = some (.getfield 31, 3) := by rw [It_X8_see]; rfl
theorem I_X8_see_56 : zin zm_X8_see.2.2.2.2.2 56 = some (.iconst 2, 1) := by rw [It_X8_see]; rfl
theorem I_X8_see_57 : zin zm_X8_see.2.2.2.2.2 57 = some (.aload_n 0, 1) := by rw [It_X8_see]; rfl
theorem I_X8_see_58 : zin zm_X8_see.2.2.2.2.2 58 = some (.getfield 134, 3) := by rw [It_X8_see]; rfl
theorem I_X8_see_61 : zin zm_X8_see.2.2.2.2.2 61 = some (.imul, 1) := by rw [It_X8_see]; rfl
theorem I_X8_see_62 : zin zm_X8_see.2.2.2.2.2 62 = some (.iconst 1, 1) := by rw [It_X8_see]; rfl
theorem I_X8_see_63 : zin zm_X8_see.2.2.2.2.2 63 = some (.iadd, 1) := by rw [It_X8_see]; rfl
theorem I_X8_see_64 : zin zm_X8_see.2.2.2.2.2 64 = some (.iload_n 2, 1) := by rw [It_X8_see]; rfl
theorem I_X8_see_65 : zin zm_X8_see.2.2.2.2.2 65 = some (.iastore, 1) := by rw [It_X8_see]; rfl
theorem I_X8_see_66 : zin zm_X8_see.2.2.2.2.2 66 = some (.aload_n 0, 1) := by rw [It_X8_see]; rfl
theorem I_X8_see_67 : zin zm_X8_see.2.2.2.2.2 67 = some (.dup, 1) := by rw [It_X8_see]; rfl
theorem I_X8_see_68 : zin zm_X8_see.2.2.2.2.2 68 = some (.getfield 134, 3) := by rw [It_X8_see]; rfl
theorem I_X8_see_71 : zin zm_X8_see.2.2.2.2.2 71 = some (.iconst 1, 1) := by rw [It_X8_see]; rfl
theorem I_X8_see_72 : zin zm_X8_see.2.2.2.2.2 72 = some (.iadd, 1) := by rw [It_X8_see]; rfl
theorem I_X8_see_73 : zin zm_X8_see.2.2.2.2.2 73 = some (.putfield 134, 3) := by rw [It_X8_see]; rfl
theorem I_X8_see_76 : zin zm_X8_see.2.2.2.2.2 76 = some (.aload_n 0, 1) := by rw [It_X8_see]; rfl
theorem I_X8_see_77 : zin zm_X8_see.2.2.2.2.2 77 = some (.getfield 134, 3) := by rw [It_X8_see]; rfl
theorem I_X8_see_80 : zin zm_X8_see.2.2.2.2.2 80 = some (.ireturn, 1) := by rw [It_X8_see]; rfl
theorem G_6_9 : zlk zfls 6 9 = some (6, 0, 260) := rfl
theorem G_6_15 : zlk zfls 6 15 = some (6, 1, 261) := rfl
theorem G_6_21 : zlk zfls 6 21 = some (6, 3, 263) := rfl
theorem G_8_31 : zlk zfls 8 31 = some (8, 22, 863) := rfl
theorem K_7_112 : zlk zmls 7 112 = some (0, 3, 1, 515) := rfl
theorem K_7_240 : zlk zmls 7 240 = some (0, 59, 2, 733) := rfl
theorem K_8_151 : zlk zmls 8 151 = some (0, 127, 1, 1016) := rfl
theorem Zm_3 : zms[3]? = some zm_X0_has := rfl
theorem Zm_59 : zms[59]? = some zm_X6_note := rfl
theorem Zm_127 : zms[127]? = some zm_X8_isOne := rfl
theorem LY_41 : zLY[41]? = some (Sum.inl 0, List.replicate 6 none) := rfl
theorem LY_42 : zLY[42]? = some (Sum.inl 0, List.replicate 6 none) := rfl
theorem LY_79 : zLY[79]? = some (Sum.inl 0, List.replicate 12 none) := rfl
theorem J_8_230 : zlk zcJs 8 230 = some (7, 1160) := rfl
theorem cl_X6_note : zm_X6_note.2.2.2.2.1 = 6 := by
  unfold zm_X6_note
  rfl
theorem cn_X6_note : zm_X6_note.2.2.2.2.1 ≠ 12 := by
  rw [cl_X6_note]
  decide
theorem cn2_X6_note : zm_X6_note.2.2.2.2.1 ≠ 2 := by
  rw [cl_X6_note]
  decide
theorem cl_X7_see : zm_X7_see.2.2.2.2.1 = 7 := by
  unfold zm_X7_see
  rfl
theorem cn_X7_see : zm_X7_see.2.2.2.2.1 ≠ 12 := by
  rw [cl_X7_see]
  decide
theorem cn2_X7_see : zm_X7_see.2.2.2.2.1 ≠ 2 := by
  rw [cl_X7_see]
  decide
theorem cl_X8_see : zm_X8_see.2.2.2.2.1 = 8 := by
  unfold zm_X8_see
  rfl
theorem cn_X8_see : zm_X8_see.2.2.2.2.1 ≠ 12 := by
  rw [cl_X8_see]
  decide
theorem cn2_X8_see : zm_X8_see.2.2.2.2.1 ≠ 2 := by
  rw [cl_X8_see]
  decide
theorem t_X6_note {d : Nat} {m : zM} {r : Option Value} {h' : zHp} {x y : Int32} {s : Nat} (hs : m 40 3 = Int32.ofNat s) (hs6 : s < 6) (H : zE none d zm_X6_note 0 [.ref 40, .int x, .int y] [] m r h') : r = none ∧ h' = zhp (zup (zup (zup m 41 s x) 42 s y) 40 3 (Int32.ofNat (s + 1))) := by
  replace H := i_aln (q := 1) H I_X6_note_0 rfl rfl
  replace H := i_gfr (q := 4) H I_X6_note_1 G_6_9 cn_X6_note LY_40 rfl rfl
  replace H := i_aln (q := 5) H I_X6_note_4 rfl rfl
  replace H := i_gfi (q := 8) H I_X6_note_5 G_6_21 cn_X6_note LY_40 rfl rfl
  replace H := i_iln (q := 9) H I_X6_note_8 rfl rfl
  have W := i_iast (q := 10) H I_X6_note_9 LY_41 rfl
  clear H
  obtain ⟨i_9, bi_9, ei_9, H⟩ := W
  replace H := i_aln (q := 11) H I_X6_note_10 rfl rfl
  replace H := i_gfr (q := 14) H I_X6_note_11 G_6_15 cn_X6_note LY_40 rfl rfl
  replace H := i_aln (q := 15) H I_X6_note_14 rfl rfl
  replace H := i_gfi (q := 18) H I_X6_note_15 G_6_21 cn_X6_note LY_40 rfl rfl
  replace H := i_iln (q := 19) H I_X6_note_18 rfl rfl
  have W := i_iast (q := 20) H I_X6_note_19 LY_42 rfl
  clear H
  obtain ⟨i_19, bi_19, ei_19, H⟩ := W
  replace H := i_aln (q := 21) H I_X6_note_20 rfl rfl
  replace H := i_dup (q := 22) H I_X6_note_21 rfl rfl
  replace H := i_gfi (q := 25) H I_X6_note_22 G_6_21 cn_X6_note LY_40 rfl rfl
  replace H := i_icst (x := 1) (q := 26) H I_X6_note_25 (by decide) rfl
  replace H := i_iadd (q := 27) H I_X6_note_26 rfl
  replace H := i_pf (q := 30) H I_X6_note_27 G_6_21 cn_X6_note LY_40 rfl rfl
  obtain ⟨hr, hh⟩ := i_rt H I_X6_note_30
  have i1 : s = i_9 := zofn (hs.symm.trans ei_9) (by omega) (by omega)
  subst i1
  rw [zup_n (by omega)] at ei_19
  have i2 : s = i_19 := zofn (hs.symm.trans ei_19) (by omega) (by omega)
  subst i2
  refine ⟨hr, hh.trans ?_⟩
  rw [zup_n (by omega), zup_n (by omega), hs, zofn_1]
/-- what may be seen: an act, somebody or nobody -/
abbrev zSo (x y c : Int32) : Prop := (¬ x < 0 ∧ x < 8) ∧ (y = -4 ∨ (¬ y < 0 ∧ y < c))
theorem t_X7_see {d : Nat} {m : zM} {r : Option Value} {h' : zHp} {x y : Int32} {s : Nat} (hs : m 40 3 = Int32.ofNat s) (hs6 : s ≤ 6) (H : zE none d zm_X7_see 0 [.ref 0, .int x, .int y] [] m r h') : ∃ m1 v, r = some (.int v) ∧ h' = zhp m1 ∧ ((¬ zSo x y (m 11 2) ∧ v = -1 ∧ m1 = m) ∨ (zSo x y (m 11 2) ∧ s = 6 ∧ v = -3 ∧ m1 = m) ∨ (zSo x y (m 11 2) ∧ s < 6 ∧ v = Int32.ofNat (s + 1) ∧ m1 = zup (zup (zup m 41 s x) 42 s y) 40 3 (Int32.ofNat (s + 1)))) := by
  replace H := i_iln (q := 1) H I_X7_see_0 rfl rfl
  have W := i_if_lt (t := 27) (q := 4) H I_X7_see_1 (by decide) rfl
  clear H
  rcases W with ⟨c_1, H⟩ | ⟨c_1, H⟩
  · skip
    replace H := i_icst (x := (-1)) (q := 28) H I_X7_see_27 (by decide) rfl
    obtain ⟨hr, hh⟩ := i_ir H I_X7_see_28
    exact ⟨_, _, hr, hh, Or.inl ⟨fun w => w.1.1 c_1, rfl, rfl⟩⟩
  · skip
    replace H := i_iln (q := 5) H I_X7_see_4 rfl rfl
    replace H := i_bip (x := 8) (q := 7) H I_X7_see_5 (by decide) rfl
    have W := i_ic_ge (t := 27) (q := 10) H I_X7_see_7 (by decide) rfl
    clear H
    rcases W with ⟨c_7, H⟩ | ⟨c_7, H⟩
    · skip
      replace H := i_icst (x := (-1)) (q := 28) H I_X7_see_27 (by decide) rfl
      obtain ⟨hr, hh⟩ := i_ir H I_X7_see_28
      exact ⟨_, _, hr, hh, Or.inl ⟨fun w => c_7 w.1.2, rfl, rfl⟩⟩
    · skip
      replace H := i_iln (q := 11) H I_X7_see_10 rfl rfl
      replace H := i_bip (x := (-4)) (q := 13) H I_X7_see_11 (by decide) rfl
      have W := i_ic_eq (t := 29) (q := 16) H I_X7_see_13 (by decide) rfl
      clear H
      rcases W with ⟨c_13, H⟩ | ⟨c_13, H⟩
      · skip
        replace H := i_aln (q := 30) H I_X7_see_29 rfl rfl
        replace H := i_gfr (q := 33) H I_X7_see_30 G_7_40 cn_X7_see LY_0 rfl rfl
        replace H := i_gfi (q := 36) H I_X7_see_33 G_7_81 cn_X7_see LY_40 rfl rfl
        replace H := i_bip (x := 6) (q := 38) H I_X7_see_36 (by decide) rfl
        have W := i_ic_lt (t := 44) (q := 41) H I_X7_see_38 (by decide) rfl
        clear H
        rcases W with ⟨c_38, H⟩ | ⟨c_38, H⟩
        · skip
          replace H := i_aln (q := 45) H I_X7_see_44 rfl rfl
          replace H := i_gfr (q := 48) H I_X7_see_45 G_7_40 cn_X7_see LY_0 rfl rfl
          replace H := i_iln (q := 49) H I_X7_see_48 rfl rfl
          replace H := i_iln (q := 50) H I_X7_see_49 rfl rfl
          have W := i_cv2 0 (q := 53) H I_X7_see_50 K_7_240 Zm_59 rfl rfl
          clear H
          obtain ⟨r1, h1, Hc, K1, K2⟩ := W
          have h6 : s < 6 := by
            rw [hs] at c_38
            exact (zofn_lt (i := s) (j := 6) (by omega) (by decide)).mp c_38
          obtain ⟨e1, e2⟩ := t_X6_note hs h6 Hc
          have H := K2 _ e1 e2
          clear e1 e2 Hc K1 K2
          replace H := i_aln (q := 54) H I_X7_see_53 rfl rfl
          replace H := i_gfr (q := 57) H I_X7_see_54 G_7_40 cn_X7_see LY_0 rfl rfl
          replace H := i_gfi (q := 60) H I_X7_see_57 G_7_81 cn_X7_see LY_40 rfl rfl
          obtain ⟨hr, hh⟩ := i_ir H I_X7_see_60
          have hok : zSo x y (m 11 2) := ⟨⟨c_1, c_7⟩, Or.inl c_13⟩
          rw [zup_s] at hr
          exact ⟨_, _, hr, hh, Or.inr (Or.inr ⟨hok, h6, rfl, rfl⟩)⟩
        · skip
          replace H := i_bip (x := (-3)) (q := 43) H I_X7_see_41 (by decide) rfl
          obtain ⟨hr, hh⟩ := i_ir H I_X7_see_43
          have hok : zSo x y (m 11 2) := ⟨⟨c_1, c_7⟩, Or.inl c_13⟩
          rw [hs] at c_38
          have h6 : s = 6 := by
            have := mt (zofn_lt (i := s) (j := 6) (by omega) (by decide)).mpr c_38
            omega
          exact ⟨_, _, hr, hh, Or.inr (Or.inl ⟨hok, h6, rfl, rfl⟩)⟩
      · skip
        replace H := i_aln (q := 17) H I_X7_see_16 rfl rfl
        replace H := i_gfr (q := 20) H I_X7_see_17 G_7_19 cn_X7_see LY_0 rfl rfl
        replace H := i_iln (q := 21) H I_X7_see_20 rfl rfl
        have W := i_cv1 0 (q := 24) H I_X7_see_21 K_7_112 Zm_3 rfl rfl
        clear H
        obtain ⟨r1, h1, Hc, K1, K2⟩ := W
        obtain ⟨e1, e2⟩ := t_X0_has lkk_11 Hc
        have H := K1 _ _ e1 e2
        clear e1 e2 Hc K1 K2
        have W := i_if_ne (t := 29) (q := 27) H I_X7_see_24 (by decide) rfl
        clear H
        rcases W with ⟨c_24, H⟩ | ⟨c_24, H⟩
        · skip
          replace H := i_aln (q := 30) H I_X7_see_29 rfl rfl
          replace H := i_gfr (q := 33) H I_X7_see_30 G_7_40 cn_X7_see LY_0 rfl rfl
          replace H := i_gfi (q := 36) H I_X7_see_33 G_7_81 cn_X7_see LY_40 rfl rfl
          replace H := i_bip (x := 6) (q := 38) H I_X7_see_36 (by decide) rfl
          have W := i_ic_lt (t := 44) (q := 41) H I_X7_see_38 (by decide) rfl
          clear H
          rcases W with ⟨c_38, H⟩ | ⟨c_38, H⟩
          · skip
            replace H := i_aln (q := 45) H I_X7_see_44 rfl rfl
            replace H := i_gfr (q := 48) H I_X7_see_45 G_7_40 cn_X7_see LY_0 rfl rfl
            replace H := i_iln (q := 49) H I_X7_see_48 rfl rfl
            replace H := i_iln (q := 50) H I_X7_see_49 rfl rfl
            have W := i_cv2 0 (q := 53) H I_X7_see_50 K_7_240 Zm_59 rfl rfl
            clear H
            obtain ⟨r1, h1, Hc, K1, K2⟩ := W
            have h6 : s < 6 := by
              rw [hs] at c_38
              exact (zofn_lt (i := s) (j := 6) (by omega) (by decide)).mp c_38
            obtain ⟨e1, e2⟩ := t_X6_note hs h6 Hc
            have H := K2 _ e1 e2
            clear e1 e2 Hc K1 K2
            replace H := i_aln (q := 54) H I_X7_see_53 rfl rfl
            replace H := i_gfr (q := 57) H I_X7_see_54 G_7_40 cn_X7_see LY_0 rfl rfl
            replace H := i_gfi (q := 60) H I_X7_see_57 G_7_81 cn_X7_see LY_40 rfl rfl
            obtain ⟨hr, hh⟩ := i_ir H I_X7_see_60
            have hok : zSo x y (m 11 2) := ⟨⟨c_1, c_7⟩, Or.inr (zif1 c_24)⟩
            rw [zup_s] at hr
            exact ⟨_, _, hr, hh, Or.inr (Or.inr ⟨hok, h6, rfl, rfl⟩)⟩
          · skip
            replace H := i_bip (x := (-3)) (q := 43) H I_X7_see_41 (by decide) rfl
            obtain ⟨hr, hh⟩ := i_ir H I_X7_see_43
            have hok : zSo x y (m 11 2) := ⟨⟨c_1, c_7⟩, Or.inr (zif1 c_24)⟩
            rw [hs] at c_38
            have h6 : s = 6 := by
              have := mt (zofn_lt (i := s) (j := 6) (by omega) (by decide)).mpr c_38
              omega
            exact ⟨_, _, hr, hh, Or.inr (Or.inl ⟨hok, h6, rfl, rfl⟩)⟩
        · skip
          replace H := i_icst (x := (-1)) (q := 28) H I_X7_see_27 (by decide) rfl
          obtain ⟨hr, hh⟩ := i_ir H I_X7_see_28
          have h1 := zif0 c_24
          exact ⟨_, _, hr, hh, Or.inl ⟨fun w => w.2.elim (fun e => c_13 e) (fun e => h1 e), rfl, rfl⟩⟩
theorem zin_07 {x : Int32} : zin64 x.toInt64 0 7 = if ¬ x < 0 ∧ x < 8 then 1 else 0 := by
  rw [zin_bt (lo := 0) (hi := 7) rfl rfl]
  have e1 : (7 : Int32) < x ↔ ¬ x < 8 := by
    rw [Int32.lt_iff_toInt_lt, Int32.lt_iff_toInt_lt]
    have e2 : (7 : Int32).toInt = 7 := rfl
    have e3 : (8 : Int32).toInt = 8 := rfl
    omega
  by_cases h1 : x < 0
  · rw [if_neg (fun w => w.1 h1), if_neg (fun w => w.1 h1)]
  · by_cases h2 : x < 8
    · rw [if_pos ⟨h1, fun w => e1.mp w h2⟩, if_pos ⟨h1, h2⟩]
    · rw [if_neg (fun w => w.2 (e1.mpr h2)), if_neg (fun w => h2 w.2)]
theorem t_X8_see {d : Nat} {m : zM} {r : Option Value} {h' : zHp} {x y : Int32} {s c : Nat} (hc : m 71 2 = Int32.ofNat c) (hc5 : c ≤ 5) (hs : m 71 23 = Int32.ofNat s) (hs6 : s ≤ 6) (H : zE none d zm_X8_see 0 [.ref 71, .int x, .int y] [] m r h') : ∃ m1 v, r = some (.int v) ∧ h' = zhp m1 ∧ ((¬ zSo x y (m 71 2) ∧ v = -1 ∧ m1 = m) ∨ (zSo x y (m 71 2) ∧ s = 6 ∧ v = -3 ∧ m1 = m) ∨ (zSo x y (m 71 2) ∧ s < 6 ∧ v = Int32.ofNat (s + 1) ∧ m1 = zup (zup (zup m 79 (2 * s) x) 79 (2 * s + 1) y) 71 23 (Int32.ofNat (s + 1)))) := by
  replace H := i_iln (q := 1) H I_X8_see_0 rfl rfl
  replace H := i_i2l (q := 2) H I_X8_see_1 rfl
  replace H := i_lcst (x := 0) (q := 3) H I_X8_see_2 (by decide) rfl
  replace H := i_ldc2 (x := 7) (q := 6) H I_X8_see_3 J_8_230 (by decide) rfl
  replace H := i_in (q := 9) H I_X8_see_6 K_8_55 rfl
  have W := i_if_eq (t := 26) (q := 12) H I_X8_see_9 (by decide) rfl
  clear H
  rcases W with ⟨c_9, H⟩ | ⟨c_9, H⟩
  · skip
    replace H := i_icst (x := (-1)) (q := 27) H I_X8_see_26 (by decide) rfl
    obtain ⟨hr, hh⟩ := i_ir H I_X8_see_27
    rw [zin_07] at c_9
    have h1 := zif0 c_9
    exact ⟨_, _, hr, hh, Or.inl ⟨fun w => h1 w.1, rfl, rfl⟩⟩
  · skip
    replace H := i_iln (q := 13) H I_X8_see_12 rfl rfl
    replace H := i_bip (x := (-4)) (q := 15) H I_X8_see_13 (by decide) rfl
    have W := i_ic_eq (t := 28) (q := 18) H I_X8_see_15 (by decide) rfl
    clear H
    rcases W with ⟨c_15, H⟩ | ⟨c_15, H⟩
    · skip
      replace H := i_aln (q := 29) H I_X8_see_28 rfl rfl
      replace H := i_gfi (q := 32) H I_X8_see_29 G_8_134 cn_X8_see LY_71 rfl rfl
      replace H := i_bip (x := 6) (q := 34) H I_X8_see_32 (by decide) rfl
      have W := i_ic_ne (t := 40) (q := 37) H I_X8_see_34 (by decide) rfl
      clear H
      rcases W with ⟨c_34, H⟩ | ⟨c_34, H⟩
      · skip
        replace H := i_aln (q := 41) H I_X8_see_40 rfl rfl
        replace H := i_gfr (q := 44) H I_X8_see_41 G_8_31 cn_X8_see LY_71 rfl rfl
        replace H := i_icst (x := 2) (q := 45) H I_X8_see_44 (by decide) rfl
        replace H := i_aln (q := 46) H I_X8_see_45 rfl rfl
        replace H := i_gfi (q := 49) H I_X8_see_46 G_8_134 cn_X8_see LY_71 rfl rfl
        replace H := i_imul (q := 50) H I_X8_see_49 rfl
        replace H := i_iln (q := 51) H I_X8_see_50 rfl rfl
        have W := i_iast (q := 52) H I_X8_see_51 LY_79 rfl
        clear H
        obtain ⟨i_51, bi_51, ei_51, H⟩ := W
        replace H := i_aln (q := 53) H I_X8_see_52 rfl rfl
        replace H := i_gfr (q := 56) H I_X8_see_53 G_8_31 cn_X8_see LY_71 rfl rfl
        replace H := i_icst (x := 2) (q := 57) H I_X8_see_56 (by decide) rfl
        replace H := i_aln (q := 58) H I_X8_see_57 rfl rfl
        replace H := i_gfi (q := 61) H I_X8_see_58 G_8_134 cn_X8_see LY_71 rfl rfl
        replace H := i_imul (q := 62) H I_X8_see_61 rfl
        replace H := i_icst (x := 1) (q := 63) H I_X8_see_62 (by decide) rfl
        replace H := i_iadd (q := 64) H I_X8_see_63 rfl
        replace H := i_iln (q := 65) H I_X8_see_64 rfl rfl
        have W := i_iast (q := 66) H I_X8_see_65 LY_79 rfl
        clear H
        obtain ⟨i_65, bi_65, ei_65, H⟩ := W
        replace H := i_aln (q := 67) H I_X8_see_66 rfl rfl
        replace H := i_dup (q := 68) H I_X8_see_67 rfl rfl
        replace H := i_gfi (q := 71) H I_X8_see_68 G_8_134 cn_X8_see LY_71 rfl rfl
        replace H := i_icst (x := 1) (q := 72) H I_X8_see_71 (by decide) rfl
        replace H := i_iadd (q := 73) H I_X8_see_72 rfl
        replace H := i_pf (q := 76) H I_X8_see_73 G_8_134 cn_X8_see LY_71 rfl rfl
        replace H := i_aln (q := 77) H I_X8_see_76 rfl rfl
        replace H := i_gfi (q := 80) H I_X8_see_77 G_8_134 cn_X8_see LY_71 rfl rfl
        obtain ⟨hr, hh⟩ := i_ir H I_X8_see_80
        rw [zin_07] at c_9
        have h1 := zif1 c_9
        have hok : zSo x y (m 71 2) := ⟨h1, Or.inl c_15⟩
        rw [hs] at c_34
        have h6 : s < 6 := by
          rcases Nat.lt_or_ge s 6 with w | w
          · exact w
          · exact absurd (show Int32.ofNat s = 6 by rw [show s = 6 by omega]; rfl) c_34
        have z1 : (2 : Int32) * m 71 23 = Int32.ofNat (2 * s) := by rw [hs, Int32.ofNat_mul]; rfl
        rw [z1] at ei_51
        have i1 : 2 * s = i_51 := zofn ei_51 (by omega) (by omega)
        subst i1
        rw [zup_n (by omega), z1, zofn_1] at ei_65
        have i2 : 2 * s + 1 = i_65 := zofn ei_65 (by omega) (by omega)
        subst i2
        rw [zup_s] at hr
        rw [zup_n (by omega), zup_n (by omega), hs, zofn_1] at hr hh
        exact ⟨_, _, hr, hh, Or.inr (Or.inr ⟨hok, h6, rfl, rfl⟩)⟩
      · skip
        replace H := i_bip (x := (-3)) (q := 39) H I_X8_see_37 (by decide) rfl
        obtain ⟨hr, hh⟩ := i_ir H I_X8_see_39
        rw [zin_07] at c_9
        have h1 := zif1 c_9
        have hok : zSo x y (m 71 2) := ⟨h1, Or.inl c_15⟩
        rw [hs] at c_34
        have h6 : s = 6 := zofn (j := 6) c_34 (by omega) (by decide)
        exact ⟨_, _, hr, hh, Or.inr (Or.inl ⟨hok, h6, rfl, rfl⟩)⟩
    · skip
      replace H := i_aln (q := 19) H I_X8_see_18 rfl rfl
      replace H := i_iln (q := 20) H I_X8_see_19 rfl rfl
      have W := i_cv1 0 (q := 23) H I_X8_see_20 K_8_151 Zm_127 rfl rfl
      clear H
      obtain ⟨r1, h1, Hc, K1, K2⟩ := W
      obtain ⟨e1, e2⟩ := t_X8_isOne hc hc5 Hc
      have H := K1 _ _ e1 e2
      clear e1 e2 Hc K1 K2
      have W := i_if_ne (t := 28) (q := 26) H I_X8_see_23 (by decide) rfl
      clear H
      rcases W with ⟨c_23, H⟩ | ⟨c_23, H⟩
      · skip
        replace H := i_aln (q := 29) H I_X8_see_28 rfl rfl
        replace H := i_gfi (q := 32) H I_X8_see_29 G_8_134 cn_X8_see LY_71 rfl rfl
        replace H := i_bip (x := 6) (q := 34) H I_X8_see_32 (by decide) rfl
        have W := i_ic_ne (t := 40) (q := 37) H I_X8_see_34 (by decide) rfl
        clear H
        rcases W with ⟨c_34, H⟩ | ⟨c_34, H⟩
        · skip
          replace H := i_aln (q := 41) H I_X8_see_40 rfl rfl
          replace H := i_gfr (q := 44) H I_X8_see_41 G_8_31 cn_X8_see LY_71 rfl rfl
          replace H := i_icst (x := 2) (q := 45) H I_X8_see_44 (by decide) rfl
          replace H := i_aln (q := 46) H I_X8_see_45 rfl rfl
          replace H := i_gfi (q := 49) H I_X8_see_46 G_8_134 cn_X8_see LY_71 rfl rfl
          replace H := i_imul (q := 50) H I_X8_see_49 rfl
          replace H := i_iln (q := 51) H I_X8_see_50 rfl rfl
          have W := i_iast (q := 52) H I_X8_see_51 LY_79 rfl
          clear H
          obtain ⟨i_51, bi_51, ei_51, H⟩ := W
          replace H := i_aln (q := 53) H I_X8_see_52 rfl rfl
          replace H := i_gfr (q := 56) H I_X8_see_53 G_8_31 cn_X8_see LY_71 rfl rfl
          replace H := i_icst (x := 2) (q := 57) H I_X8_see_56 (by decide) rfl
          replace H := i_aln (q := 58) H I_X8_see_57 rfl rfl
          replace H := i_gfi (q := 61) H I_X8_see_58 G_8_134 cn_X8_see LY_71 rfl rfl
          replace H := i_imul (q := 62) H I_X8_see_61 rfl
          replace H := i_icst (x := 1) (q := 63) H I_X8_see_62 (by decide) rfl
          replace H := i_iadd (q := 64) H I_X8_see_63 rfl
          replace H := i_iln (q := 65) H I_X8_see_64 rfl rfl
          have W := i_iast (q := 66) H I_X8_see_65 LY_79 rfl
          clear H
          obtain ⟨i_65, bi_65, ei_65, H⟩ := W
          replace H := i_aln (q := 67) H I_X8_see_66 rfl rfl
          replace H := i_dup (q := 68) H I_X8_see_67 rfl rfl
          replace H := i_gfi (q := 71) H I_X8_see_68 G_8_134 cn_X8_see LY_71 rfl rfl
          replace H := i_icst (x := 1) (q := 72) H I_X8_see_71 (by decide) rfl
          replace H := i_iadd (q := 73) H I_X8_see_72 rfl
          replace H := i_pf (q := 76) H I_X8_see_73 G_8_134 cn_X8_see LY_71 rfl rfl
          replace H := i_aln (q := 77) H I_X8_see_76 rfl rfl
          replace H := i_gfi (q := 80) H I_X8_see_77 G_8_134 cn_X8_see LY_71 rfl rfl
          obtain ⟨hr, hh⟩ := i_ir H I_X8_see_80
          rw [zin_07] at c_9
          have h1 := zif1 c_9
          have hok : zSo x y (m 71 2) := ⟨h1, Or.inr (zif1 c_23)⟩
          rw [hs] at c_34
          have h6 : s < 6 := by
            rcases Nat.lt_or_ge s 6 with w | w
            · exact w
            · exact absurd (show Int32.ofNat s = 6 by rw [show s = 6 by omega]; rfl) c_34
          have z1 : (2 : Int32) * m 71 23 = Int32.ofNat (2 * s) := by rw [hs, Int32.ofNat_mul]; rfl
          rw [z1] at ei_51
          have i1 : 2 * s = i_51 := zofn ei_51 (by omega) (by omega)
          subst i1
          rw [zup_n (by omega), z1, zofn_1] at ei_65
          have i2 : 2 * s + 1 = i_65 := zofn ei_65 (by omega) (by omega)
          subst i2
          rw [zup_s] at hr
          rw [zup_n (by omega), zup_n (by omega), hs, zofn_1] at hr hh
          exact ⟨_, _, hr, hh, Or.inr (Or.inr ⟨hok, h6, rfl, rfl⟩)⟩
        · skip
          replace H := i_bip (x := (-3)) (q := 39) H I_X8_see_37 (by decide) rfl
          obtain ⟨hr, hh⟩ := i_ir H I_X8_see_39
          rw [zin_07] at c_9
          have h1 := zif1 c_9
          have hok : zSo x y (m 71 2) := ⟨h1, Or.inr (zif1 c_23)⟩
          rw [hs] at c_34
          have h6 : s = 6 := zofn (j := 6) c_34 (by omega) (by decide)
          exact ⟨_, _, hr, hh, Or.inr (Or.inl ⟨hok, h6, rfl, rfl⟩)⟩
      · skip
        replace H := i_icst (x := (-1)) (q := 27) H I_X8_see_26 (by decide) rfl
        obtain ⟨hr, hh⟩ := i_ir H I_X8_see_27
        rw [zin_07] at c_9
        have h1 := zif1 c_9
        have h2 := zif0 c_23
        exact ⟨_, _, hr, hh, Or.inl ⟨fun w => w.2.elim (fun e => c_15 e) (fun e => h2 e), rfl, rfl⟩⟩
