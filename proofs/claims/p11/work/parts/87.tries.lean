/-! a try of the reference -/
theorem It_X8_countAt : zm_X8_countAt.2.2.2.2.2 = zt_X8_countAt := by
  unfold zm_X8_countAt
  rfl
theorem It_X8_countOf : zm_X8_countOf.2.2.2.2.2 = zt_X8_countOf := by
  unfold zm_X8_countOf
  rfl
theorem It_X8_isNear : zm_X8_isNear.2.2.2.2.2 = zt_X8_isNear := by
  unfold zm_X8_isNear
  rfl
theorem It_X8_leastOn : zm_X8_leastOn.2.2.2.2.2 = zt_X8_leastOn := by
  unfold zm_X8_leastOn
  rfl
theorem It_X8_triesOn : zm_X8_triesOn.2.2.2.2.2 = zt_X8_triesOn := by
  unfold zm_X8_triesOn
  rfl
theorem I_X8_countAt_0 : zin zm_X8_countAt.2.2.2.2.2 0 = some (.iload_n 1, 1) := by rw [It_X8_countAt]; rfl
theorem I_X8_countAt_1 : zin zm_X8_countAt.2.2.2.2.2 1 = some (.aload_n 0, 1) := by rw [It_X8_countAt]; rfl
theorem I_X8_countAt_2 : zin zm_X8_countAt.2.2.2.2.2 2 = some (.getfield 7, 3) := by rw [It_X8_countAt]; rfl
theorem I_X8_countAt_5 : zin zm_X8_countAt.2.2.2.2.2 5 = some (.iload_n 1, 1) := by rw [It_X8_countAt]; rfl
theorem I_X8_countAt_6 : zin zm_X8_countAt.2.2.2.2.2 6 = some (.bipush 15, 2) := by rw [It_X8_countAt]; rfl
theorem I_X8_countAt_8 : zin zm_X8_countAt.2.2.2.2.2 8 = some (.iadd, 1) := by rw [It_X8_countAt]; rfl
theorem I_X8_countAt_9 : zin zm_X8_countAt.2.2.2.2.2 9 = some (.iaload, 1) := by rw [It_X8_countAt]; rfl
theorem I_X8_countAt_10 : zin zm_X8_countAt.2.2.2.2.2 10 = some (.iload_n 2, 1) := by rw [It_X8_countAt]; rfl
theorem I_X8_countAt_11 : zin zm_X8_countAt.2.2.2.2.2 11 = some (.ishr, 1) := by rw [It_X8_countAt]; rfl
theorem I_X8_countAt_12 : zin zm_X8_countAt.2.2.2.2.2 12 = some (.iconst 1, 1) := by rw [It_X8_countAt]; rfl
theorem I_X8_countAt_13 : zin zm_X8_countAt.2.2.2.2.2 13 = some (.iand, 1) := by rw [It_X8_countAt]; rfl
theorem I_X8_countAt_14 : zin zm_X8_countAt.2.2.2.2.2 14 = some (.iconst 1, 1) := by rw [It_X8_countAt]; rfl
theorem I_X8_countAt_15 : zin zm_X8_countAt.2.2.2.2.2 15 = some (.if_icmp .ne 8, 3) := by rw [It_X8_countAt]; rfl
theorem I_X8_countAt_18 : zin zm_X8_countAt.2.2.2.2.2 18 = some (.bipush 10, 2) := by rw [It_X8_countAt]; rfl
theorem I_X8_countAt_20 : zin zm_X8_countAt.2.2.2.2.2 20 = some (.goto 4, 3) := by rw [It_X8_countAt]; rfl
theorem I_X8_countAt_23 : zin zm_X8_countAt.2.2.2.2.2 23 = some (.iconst 5, 1) := by rw [It_X8_countAt]; rfl
theorem I_X8_countAt_24 : zin zm_X8_countAt.2.2.2.2.2 24 = some (.iadd, 1) := by rw [It_X8_countAt]; rfl
theorem I_X8_countAt_25 : zin zm_X8_countAt.2.2.2.2.2 25 = some (.iload_n 2, 1) := by rw [It_X8_countAt]; rfl
theorem I_X8_countAt_26 : zin zm_X8_countAt.2.2.2.2.2 26 = some (.iadd, 1) := by rw [It_X8_countAt]; rfl
theorem I_X8_countAt_27 : zin zm_X8_countAt.2.2.2.2.2 27 = some (.ireturn, 1) := by rw [It_X8_countAt]; rfl
theorem I_X8_countOf_0 : zin zm_X8_countOf.2.2.2.2.2 0 = some (.aload_n 0, 1) := by rw [It_X8_countOf]; rfl
theorem I_X8_countOf_1 : zin zm_X8_countOf.2.2.2.2.2 1 = some (.getfield 7, 3) := by rw [It_X8_countOf]; rfl
theorem I_X8_countOf_4 : zin zm_X8_countOf.2.2.2.2.2 4 = some (.aload_n 0, 1) := by rw [It_X8_countOf]; rfl
theorem I_X8_countOf_5 : zin zm_X8_countOf.2.2.2.2.2 5 = some (.iload_n 1, 1) := by rw [It_X8_countOf]; rfl
theorem I_X8_countOf_6 : zin zm_X8_countOf.2.2.2.2.2 6 = some (.iload_n 2, 1) := by rw [It_X8_countOf]; rfl
theorem I_X8_countOf_7 : zin zm_X8_countOf.2.2.2.2.2 7 = some (.invokevirtual 137, 3) := by rw [It_X8_countOf]; rfl
theorem I_X8_countOf_10 : zin zm_X8_countOf.2.2.2.2.2 10 = some (.iaload, 1) := by rw [It_X8_countOf]; rfl
theorem I_X8_countOf_11 : zin zm_X8_countOf.2.2.2.2.2 11 = some (.ireturn, 1) := by rw [It_X8_countOf]; rfl
theorem I_X8_isNear_0 : zin zm_X8_isNear.2.2.2.2.2 0 = some (.aload_n 0, 1) := by rw [It_X8_isNear]; rfl
theorem I_X8_isNear_1 : zin zm_X8_isNear.2.2.2.2.2 1 = some (.iload_n 1, 1) := by rw [It_X8_isNear]; rfl
theorem I_X8_isNear_2 : zin zm_X8_isNear.2.2.2.2.2 2 = some (.iload_n 2, 1) := by rw [It_X8_isNear]; rfl
theorem I_X8_isNear_3 : zin zm_X8_isNear.2.2.2.2.2 3 = some (.invokevirtual 141, 3) := by rw [It_X8_isNear]; rfl
theorem I_X8_isNear_6 : zin zm_X8_isNear.2.2.2.2.2 6 = some (.aload_n 0, 1) := by rw [It_X8_isNear]; rfl
theorem I_X8_isNear_7 : zin zm_X8_isNear.2.2.2.2.2 7 = some (.iload_n 1, 1) := by rw [It_X8_isNear]; rfl
theorem I_X8_isNear_8 : zin zm_X8_isNear.2.2.2.2.2 8 = some (.invokevirtual 144, 3) := by rw [It_X8_isNear]; rfl
theorem I_X8_isNear_11 : zin zm_X8_isNear.2.2.2.2.2 11 = some (.aload_n 0, 1) := by rw [It_X8_isNear]; rfl
theorem I_X8_isNear_12 : zin zm_X8_isNear.2.2.2.2.2 12 = some (.getfield 7, 3) := by rw [It_X8_isNear]; rfl
theorem I_X8_isNear_15 : zin zm_X8_isNear.2.2.2.2.2 15 = some (.iload_n 1, 1) := by rw [It_X8_isNear]; rfl
theorem I_X8_isNear_16 : zin zm_X8_isNear.2.2.2.2.2 16 = some (.bipush 16, 2) := by rw [It_X8_isNear]; rfl
theorem I_X8_isNear_18 : zin zm_X8_isNear.2.2.2.2.2 18 = some (.iadd, 1) := by rw [It_X8_isNear]; rfl
theorem I_X8_isNear_19 : zin zm_X8_isNear.2.2.2.2.2 19 = some (.iaload, 1) := by rw [It_X8_isNear]; rfl
theorem I_X8_isNear_20 : zin zm_X8_isNear.2.2.2.2.2 20 = some (.iadd, 1) := by rw [It_X8_isNear]; rfl
theorem I_X8_isNear_21 : zin zm_X8_isNear.2.2.2.2.2 21 = some (.iconst 1, 1) := by rw [It_X8_isNear]; rfl
theorem I_X8_isNear_22 : zin zm_X8_isNear.2.2.2.2.2 22 = some (.iadd, 1) := by rw [It_X8_isNear]; rfl
theorem I_X8_isNear_23 : zin zm_X8_isNear.2.2.2.2.2 23 = some (.if_icmp .gt 7, 3) := by rw [It_X8_isNear]; rfl
theorem I_X8_isNear_26 : zin zm_X8_isNear.2.2.2.2.2 26 = some (.iconst 1, 1) := by rw [It_X8_isNear]; rfl
theorem I_X8_isNear_27 : zin zm_X8_isNear.2.2.2.2.2 27 = some (.goto 4, 3) := by rw [It_X8_isNear]; rfl
theorem I_X8_isNear_30 : zin zm_X8_isNear.2.2.2.2.2 30 = some (.iconst 0, 1) := by rw [It_X8_isNear]; rfl
theorem I_X8_isNear_31 : zin zm_X8_isNear.2.2.2.2.2 31 = some (.ireturn, 1) := by rw [It_X8_isNear]; rfl
theorem I_X8_leastOn_0 : zin zm_X8_leastOn.2.2.2.2.2 0 = some (.bipush (-4), 2) := by rw [It_X8_leastOn]; rfl
theorem I_X8_leastOn_2 : zin zm_X8_leastOn.2.2.2.2.2 2 = some (.istore_n 2, 1) := by rw [It_X8_leastOn]; rfl
theorem I_X8_leastOn_3 : zin zm_X8_leastOn.2.2.2.2.2 3 = some (.iconst 0, 1) := by rw [It_X8_leastOn]; rfl
theorem I_X8_leastOn_4 : zin zm_X8_leastOn.2.2.2.2.2 4 = some (.istore_n 3, 1) := by rw [It_X8_leastOn]; rfl
theorem I_X8_leastOn_5 : zin zm_X8_leastOn.2.2.2.2.2 5 = some (.iload_n 3, 1) := by rw [It_X8_leastOn]; rfl
theorem I_X8_leastOn_6 : zin zm_X8_leastOn.2.2.2.2.2 6 = some (.aload_n 0, 1) := by rw [It_X8_leastOn]; rfl
theorem I_X8_leastOn_7 : zin zm_X8_leastOn.2.2.2.2.2 7 = some (.getfield 131, 3) := by rw [It_X8_leastOn]; rfl
theorem I_X8_leastOn_10 : zin zm_X8_leastOn.2.2.2.2.2 10 = some (.if_icmp .ge 36, 3) := by rw [It_X8_leastOn]; rfl
theorem I_X8_leastOn_13 : zin zm_X8_leastOn.2.2.2.2.2 13 = some (.iload_n 2, 1) := by rw [It_X8_leastOn]; rfl
theorem I_X8_leastOn_14 : zin zm_X8_leastOn.2.2.2.2.2 14 = some (.bipush (-4), 2) := by rw [It_X8_leastOn]; rfl
theorem I_X8_leastOn_16 : zin zm_X8_leastOn.2.2.2.2.2 16 = some (.if_icmp .eq 13, 3) := by rw [It_X8_leastOn]; rfl
theorem I_X8_leastOn_19 : zin zm_X8_leastOn.2.2.2.2.2 19 = some (.aload_n 0, 1) := by rw [It_X8_leastOn]; rfl
theorem I_X8_leastOn_20 : zin zm_X8_leastOn.2.2.2.2.2 20 = some (.iload_n 1, 1) := by rw [It_X8_leastOn]; rfl
theorem I_X8_leastOn_21 : zin zm_X8_leastOn.2.2.2.2.2 21 = some (.iload_n 3, 1) := by rw [It_X8_leastOn]; rfl
theorem I_X8_leastOn_22 : zin zm_X8_leastOn.2.2.2.2.2 22 = some (.invokevirtual 141, 3) := by rw [It_X8_leastOn]; rfl
theorem I_X8_leastOn_25 : zin zm_X8_leastOn.2.2.2.2.2 25 = some (.iload_n 2, 1) := by rw [It_X8_leastOn]; rfl
theorem I_X8_leastOn_26 : zin zm_X8_leastOn.2.2.2.2.2 26 = some (.if_icmp .ge 12, 3) := by rw [It_X8_leastOn]; rfl
theorem I_X8_leastOn_29 : zin zm_X8_leastOn.2.2.2.2.2 29 = some (.aload_n 0, 1) := by rw [It_X8_leastOn]; rfl
theorem I_X8_leastOn_30 : zin zm_X8_leastOn.2.2.2.2.2 30 = some (.iload_n 1, 1) := by rw [It_X8_leastOn]; rfl
theorem I_X8_leastOn_31 : zin zm_X8_leastOn.2.2.2.2.2 31 = some (.iload_n 3, 1) := by rw [It_X8_leastOn]; rfl
theorem I_X8_leastOn_32 : zin zm_X8_leastOn.2.2.2.2.2 32 = some (.invokevirtual 141, 3) := by rw [It_X8_leastOn]; rfl
theorem I_X8_leastOn_35 : zin zm_X8_leastOn.2.2.2.2.2 35 = some (.goto 4, 3) := by rw [It_X8_leastOn]; rfl
theorem I_X8_leastOn_38 : zin zm_X8_leastOn.2.2.2.2.2 38 = some (.iload_n 2, 1) := by rw [It_X8_leastOn]; rfl
theorem I_X8_leastOn_39 : zin zm_X8_leastOn.2.2.2.2.2 39 = some (.istore_n 2, 1) := by rw [It_X8_leastOn]; rfl
theorem I_X8_leastOn_40 : zin zm_X8_leastOn.2.2.2.2.2 40 = some (.iinc 3 1, 3) := by rw [It_X8_leastOn]; rfl
theorem I_X8_leastOn_43 : zin zm_X8_leastOn.2.2.2.2.2 43 = some (.goto (-38), 3) := by rw [It_X8_leastOn]; rfl
theorem I_X8_leastOn_46 : zin zm_X8_leastOn.2.2.2.2.2 46 = some (.iload_n 2, 1) := by rw [It_X8_leastOn]; rfl
theorem I_X8_leastOn_47 : zin zm_X8_leastOn.2.2.2.2.2 47 = some (.ireturn, 1) := by rw [It_X8_leastOn]; rfl
theorem I_X8_triesOn_11 : zin zm_X8_triesOn.2.2.2.2.2 11 = some (.iload 4, 2) := by rw [It_X8_triesOn]; rfl
theorem I_X8_triesOn_13 : zin zm_X8_triesOn.2.2.2.2.2 13 = some (.ifCond .lt 60, 3) := by rw [It_X8_triesOn]; rfl
theorem I_X8_triesOn_16 : zin zm_X8_triesOn.2.2.2.2.2 16 = some (.iload_n 2, 1) := by rw [It_X8_triesOn]; rfl
theorem I_X8_triesOn_17 : zin zm_X8_triesOn.2.2.2.2.2 17 = some (.iload 4, 2) := by rw [It_X8_triesOn]; rfl
theorem I_X8_triesOn_19 : zin zm_X8_triesOn.2.2.2.2.2 19 = some (.ishr, 1) := by rw [It_X8_triesOn]; rfl
theorem I_X8_triesOn_20 : zin zm_X8_triesOn.2.2.2.2.2 20 = some (.iconst 1, 1) := by rw [It_X8_triesOn]; rfl
theorem I_X8_triesOn_21 : zin zm_X8_triesOn.2.2.2.2.2 21 = some (.iand, 1) := by rw [It_X8_triesOn]; rfl
theorem I_X8_triesOn_22 : zin zm_X8_triesOn.2.2.2.2.2 22 = some (.iconst 1, 1) := by rw [It_X8_triesOn]; rfl
theorem I_X8_triesOn_23 : zin zm_X8_triesOn.2.2.2.2.2 23 = some (.if_icmp .ne 29, 3) := by rw [It_X8_triesOn]; rfl
theorem I_X8_triesOn_26 : zin zm_X8_triesOn.2.2.2.2.2 26 = some (.iload_n 3, 1) := by rw [It_X8_triesOn]; rfl
theorem I_X8_triesOn_27 : zin zm_X8_triesOn.2.2.2.2.2 27 = some (.bipush (-4), 2) := by rw [It_X8_triesOn]; rfl
theorem I_X8_triesOn_29 : zin zm_X8_triesOn.2.2.2.2.2 29 = some (.if_icmp .eq 19, 3) := by rw [It_X8_triesOn]; rfl
theorem I_X8_triesOn_32 : zin zm_X8_triesOn.2.2.2.2.2 32 = some (.aload_n 0, 1) := by rw [It_X8_triesOn]; rfl
theorem I_X8_triesOn_33 : zin zm_X8_triesOn.2.2.2.2.2 33 = some (.iload_n 1, 1) := by rw [It_X8_triesOn]; rfl
theorem I_X8_triesOn_34 : zin zm_X8_triesOn.2.2.2.2.2 34 = some (.iload 4, 2) := by rw [It_X8_triesOn]; rfl
theorem I_X8_triesOn_36 : zin zm_X8_triesOn.2.2.2.2.2 36 = some (.invokevirtual 141, 3) := by rw [It_X8_triesOn]; rfl
theorem I_X8_triesOn_39 : zin zm_X8_triesOn.2.2.2.2.2 39 = some (.aload_n 0, 1) := by rw [It_X8_triesOn]; rfl
theorem I_X8_triesOn_40 : zin zm_X8_triesOn.2.2.2.2.2 40 = some (.iload_n 1, 1) := by rw [It_X8_triesOn]; rfl
theorem I_X8_triesOn_41 : zin zm_X8_triesOn.2.2.2.2.2 41 = some (.iload_n 3, 1) := by rw [It_X8_triesOn]; rfl
theorem I_X8_triesOn_42 : zin zm_X8_triesOn.2.2.2.2.2 42 = some (.invokevirtual 141, 3) := by rw [It_X8_triesOn]; rfl
theorem I_X8_triesOn_45 : zin zm_X8_triesOn.2.2.2.2.2 45 = some (.if_icmp .gt 7, 3) := by rw [It_X8_triesOn]; rfl
theorem I_X8_triesOn_48 : zin zm_X8_triesOn.2.2.2.2.2 48 = some (.iconst 1, 1) := by rw [It_X8_triesOn]; rfl
theorem I_X8_triesOn_49 : zin zm_X8_triesOn.2.2.2.2.2 49 = some (.goto 4, 3) := by rw [It_X8_triesOn]; rfl
theorem I_X8_triesOn_52 : zin zm_X8_triesOn.2.2.2.2.2 52 = some (.iconst 0, 1) := by rw [It_X8_triesOn]; rfl
theorem I_X8_triesOn_53 : zin zm_X8_triesOn.2.2.2.2.2 53 = some (.istore 5, 2) := by rw [It_X8_triesOn]; rfl
theorem I_X8_triesOn_55 : zin zm_X8_triesOn.2.2.2.2.2 55 = some (.iload 5, 2) := by rw [It_X8_triesOn]; rfl
theorem I_X8_triesOn_57 : zin zm_X8_triesOn.2.2.2.2.2 57 = some (.ifCond .eq 8, 3) := by rw [It_X8_triesOn]; rfl
theorem I_X8_triesOn_60 : zin zm_X8_triesOn.2.2.2.2.2 60 = some (.iload 4, 2) := by rw [It_X8_triesOn]; rfl
theorem I_X8_triesOn_62 : zin zm_X8_triesOn.2.2.2.2.2 62 = some (.goto 4, 3) := by rw [It_X8_triesOn]; rfl
theorem I_X8_triesOn_65 : zin zm_X8_triesOn.2.2.2.2.2 65 = some (.iload_n 3, 1) := by rw [It_X8_triesOn]; rfl
theorem I_X8_triesOn_66 : zin zm_X8_triesOn.2.2.2.2.2 66 = some (.istore_n 3, 1) := by rw [It_X8_triesOn]; rfl
theorem I_X8_triesOn_67 : zin zm_X8_triesOn.2.2.2.2.2 67 = some (.iinc 4 (-1), 3) := by rw [It_X8_triesOn]; rfl
theorem I_X8_triesOn_70 : zin zm_X8_triesOn.2.2.2.2.2 70 = some (.goto (-59), 3) := by rw [It_X8_triesOn]; rfl
theorem K_8_137 : zlk zmls 8 137 = some (0, 128, 2, 1004) := rfl
theorem K_8_141 : zlk zmls 8 141 = some (0, 129, 2, 1000) := rfl
theorem K_8_144 : zlk zmls 8 144 = some (0, 130, 1, 1008) := rfl
theorem Zm_128 : zms[128]? = some zm_X8_countAt := rfl
theorem Zm_129 : zms[129]? = some zm_X8_countOf := rfl
theorem Zm_130 : zms[130]? = some zm_X8_leastOn := rfl
theorem cl_X8_countAt : zm_X8_countAt.2.2.2.2.1 = 8 := by
  unfold zm_X8_countAt
  rfl
theorem cn_X8_countAt : zm_X8_countAt.2.2.2.2.1 ≠ 12 := by
  rw [cl_X8_countAt]
  decide
theorem cn2_X8_countAt : zm_X8_countAt.2.2.2.2.1 ≠ 2 := by
  rw [cl_X8_countAt]
  decide
theorem cl_X8_countOf : zm_X8_countOf.2.2.2.2.1 = 8 := by
  unfold zm_X8_countOf
  rfl
theorem cn_X8_countOf : zm_X8_countOf.2.2.2.2.1 ≠ 12 := by
  rw [cl_X8_countOf]
  decide
theorem cn2_X8_countOf : zm_X8_countOf.2.2.2.2.1 ≠ 2 := by
  rw [cl_X8_countOf]
  decide
theorem cl_X8_isNear : zm_X8_isNear.2.2.2.2.1 = 8 := by
  unfold zm_X8_isNear
  rfl
theorem cn_X8_isNear : zm_X8_isNear.2.2.2.2.1 ≠ 12 := by
  rw [cl_X8_isNear]
  decide
theorem cn2_X8_isNear : zm_X8_isNear.2.2.2.2.1 ≠ 2 := by
  rw [cl_X8_isNear]
  decide
theorem cl_X8_leastOn : zm_X8_leastOn.2.2.2.2.1 = 8 := by
  unfold zm_X8_leastOn
  rfl
theorem cn_X8_leastOn : zm_X8_leastOn.2.2.2.2.1 ≠ 12 := by
  rw [cl_X8_leastOn]
  decide
theorem cn2_X8_leastOn : zm_X8_leastOn.2.2.2.2.1 ≠ 2 := by
  rw [cl_X8_leastOn]
  decide
/-- a page of the reference holds g -/
def PG (m : zM) (pg : Nat) (g : Nat → Int32) : Prop := pg + 27 ≤ 135 ∧ ∀ j, j < 27 → m 72 (pg + j) = g j
theorem gat_le {g : Nat → Int32} {i : Nat} (h : i < 5) : gat g i < 15 ∧ 5 ≤ gat g i := by
  unfold gat
  split <;> omega
theorem gcn_at {g : Nat → Int32} {i : Nat} : gcn g i = g (gat g i) := by
  unfold gcn gat
  split <;> rfl
theorem zix3 {a b i : Nat} {x y : Int32} (hx : x = Int32.ofNat a) (hy : y = Int32.ofNat b) (h : x + y = Int32.ofNat i) (hab : a + b < 1000) (hi : i < 1000) : i = a + b := zix_add hx hy h hab hi
theorem zbt_1 {s : Int32} {i : Nat} : zbt s i = 1 ↔ ¬ zbt s i = 0 := by
  constructor
  · intro h
    rw [h]
    decide
  · intro h
    exact (zbt01 _).resolve_left h
theorem t_X8_countAt {d : Nat} {m : zM} {r : Option Value} {h' : zHp} {pg i : Nat} {g : Nat → Int32} (hP : PG m pg g) (hi : i < 5) (H : zE none d zm_X8_countAt 0 [.ref 71, .int (Int32.ofNat pg), .int (Int32.ofNat i)] [] m r h') : r = some (.int (Int32.ofNat (pg + gat g i))) ∧ h' = zhp m := by
  replace H := i_iln (q := 1) H I_X8_countAt_0 rfl rfl
  replace H := i_aln (q := 2) H I_X8_countAt_1 rfl rfl
  replace H := i_gfr (q := 5) H I_X8_countAt_2 G_8_7 cn_X8_countAt LY_71 rfl rfl
  replace H := i_iln (q := 6) H I_X8_countAt_5 rfl rfl
  replace H := i_bip (x := 15) (q := 8) H I_X8_countAt_6 (by decide) rfl
  replace H := i_iadd (q := 9) H I_X8_countAt_8 rfl
  have W := i_ia (q := 10) H I_X8_countAt_9 LY_72 rfl
  clear H
  obtain ⟨i_9, bi_9, ei_9, H⟩ := W
  replace H := i_iln (q := 11) H I_X8_countAt_10 rfl rfl
  replace H := i_ishr (q := 12) H I_X8_countAt_11 rfl
  replace H := i_icst (x := 1) (q := 13) H I_X8_countAt_12 (by decide) rfl
  replace H := i_iand (q := 14) H I_X8_countAt_13 rfl
  replace H := i_icst (x := 1) (q := 15) H I_X8_countAt_14 (by decide) rfl
  have W := i_ic_ne (t := 23) (q := 18) H I_X8_countAt_15 (by decide) rfl
  clear H
  rcases W with ⟨c_15, H⟩ | ⟨c_15, H⟩
  · skip
    replace H := i_icst (x := 5) (q := 24) H I_X8_countAt_23 (by decide) rfl
    replace H := i_iadd (q := 25) H I_X8_countAt_24 rfl
    replace H := i_iln (q := 26) H I_X8_countAt_25 rfl rfl
    replace H := i_iadd (q := 27) H I_X8_countAt_26 rfl
    obtain ⟨hr, hh⟩ := i_ir H I_X8_countAt_27
    have i1 : i_9 = pg + 15 := zix3 rfl (b := 15) rfl ei_9 (by have := hP.1; omega) (by omega)
    subst i1
    rw [hP.2 15 (by omega)] at c_15
    refine ⟨hr.trans ?_, hh⟩
    unfold gat
    rw [if_neg (show ¬ zbt (g 15) i = 1 from c_15), Int32.ofNat_add, Int32.ofNat_add]
    rw [Int32.add_assoc]
    rfl
  · skip
    replace H := i_bip (x := 10) (q := 20) H I_X8_countAt_18 (by decide) rfl
    replace H := i_goto (q := 24) H I_X8_countAt_20 (by decide)
    replace H := i_iadd (q := 25) H I_X8_countAt_24 rfl
    replace H := i_iln (q := 26) H I_X8_countAt_25 rfl rfl
    replace H := i_iadd (q := 27) H I_X8_countAt_26 rfl
    obtain ⟨hr, hh⟩ := i_ir H I_X8_countAt_27
    have i1 : i_9 = pg + 15 := zix3 rfl (b := 15) rfl ei_9 (by have := hP.1; omega) (by omega)
    subst i1
    rw [hP.2 15 (by omega)] at c_15
    refine ⟨hr.trans ?_, hh⟩
    unfold gat
    rw [if_pos (show zbt (g 15) i = 1 from c_15), Int32.ofNat_add, Int32.ofNat_add]
    rw [Int32.add_assoc]
    rfl
theorem t_X8_countOf {d : Nat} {m : zM} {r : Option Value} {h' : zHp} {pg i : Nat} {g : Nat → Int32} (hP : PG m pg g) (hi : i < 5) (H : zE none d zm_X8_countOf 0 [.ref 71, .int (Int32.ofNat pg), .int (Int32.ofNat i)] [] m r h') : r = some (.int (gcn g i)) ∧ h' = zhp m := by
  have hle := gat_le (g := g) hi
  replace H := i_aln (q := 1) H I_X8_countOf_0 rfl rfl
  replace H := i_gfr (q := 4) H I_X8_countOf_1 G_8_7 cn_X8_countOf LY_71 rfl rfl
  replace H := i_aln (q := 5) H I_X8_countOf_4 rfl rfl
  replace H := i_iln (q := 6) H I_X8_countOf_5 rfl rfl
  replace H := i_iln (q := 7) H I_X8_countOf_6 rfl rfl
  have W := i_cv2 0 (q := 10) H I_X8_countOf_7 K_8_137 Zm_128 rfl rfl
  clear H
  obtain ⟨r1, h1, Hc, K1, K2⟩ := W
  obtain ⟨e1, e2⟩ := t_X8_countAt hP (by omega) Hc
  have H := K1 _ _ e1 e2
  clear e1 e2 Hc K1 K2
  have W := i_ia (q := 11) H I_X8_countOf_10 LY_72 rfl
  clear H
  obtain ⟨i_10, bi_10, ei_10, H⟩ := W
  obtain ⟨hr, hh⟩ := i_ir H I_X8_countOf_11
  have i1 : pg + gat g i = i_10 := zofn ei_10 (by have := hP.1; omega) (by omega)
  subst i1
  rw [hP.2 _ (by omega), ← gcn_at (g := g) (i := i)] at hr
  exact ⟨hr, hh⟩
theorem zmn_nn {f : Nat → Int32} : ∀ n, 0 < n → (∀ i, i < n → 0 ≤ (f i).toInt) → 0 ≤ (zmn f n).toInt
  | 0, h, _ => absurd h (Nat.lt_irrefl 0)
  | n + 1, _, h => by
    rw [zmn]
    split
    · exact h 0 (by omega)
    · unfold zmin
      split
      · exact h n (by omega)
      · exact zmn_nn n (by omega) (fun i hi => h i (by omega))
theorem zmn_4 {f : Nat → Int32} {n : Nat} (h : ∀ i, i < n → 0 ≤ (f i).toInt) : zmn f n = -4 ↔ n = 0 := by
  constructor
  · intro e
    rcases Nat.eq_zero_or_pos n with w | w
    · exact w
    · have := zmn_nn n w h
      rw [e] at this
      exact absurd this (by decide)
  · intro e
    subst e
    rfl
theorem gok_n {g : Nat → Int32} {c : Nat} (h : gok g c) {i : Nat} (hi : i < c) : 0 ≤ (gcn g i).toInt := by
  unfold gcn
  split
  · exact (h.2.1 i hi).2.2.1
  · exact (h.2.1 i hi).2.1.1
theorem ln_loop {m : zM} {pg c : Nat} {g : Nat → Int32} (hP : PG m pg g) (hg : gok g c) (hc : m 71 2 = Int32.ofNat c) : ∀ (j i d : Nat) (r : Option Value) (h' : zHp), i + j = c → zE none d zm_X8_leastOn 5 [.ref 71, .int (Int32.ofNat pg), .int (zmn (gcn g) i), .int (Int32.ofNat i)] [] m r h' → r = some (.int (zmn (gcn g) c)) ∧ h' = zhp m := by
  have hc5 := hg.1
  intro j
  induction j with
  | zero =>
    intro i d r h' hj H
    replace H := i_iln (q := 6) H I_X8_leastOn_5 rfl rfl
    replace H := i_aln (q := 7) H I_X8_leastOn_6 rfl rfl
    replace H := i_gfi (q := 10) H I_X8_leastOn_7 G_8_131 cn_X8_leastOn LY_71 rfl rfl
    have W := i_ic_ge (t := 46) (q := 13) H I_X8_leastOn_10 (by decide) rfl
    clear H
    rcases W with ⟨c_10, H⟩ | ⟨c_10, H⟩
    · skip
      replace H := i_iln (q := 47) H I_X8_leastOn_46 rfl rfl
      obtain ⟨hr, hh⟩ := i_ir H I_X8_leastOn_47
      have e : i = c := by omega
      subst e
      exact ⟨hr, hh⟩
    · exfalso
      rw [hc] at c_10
      exact absurd ((zofn_lt (by omega) (by omega)).mp c_10) (by omega)
  | succ j ih =>
    intro i d r h' hj H
    replace H := i_iln (q := 6) H I_X8_leastOn_5 rfl rfl
    replace H := i_aln (q := 7) H I_X8_leastOn_6 rfl rfl
    replace H := i_gfi (q := 10) H I_X8_leastOn_7 G_8_131 cn_X8_leastOn LY_71 rfl rfl
    have W := i_ic_ge (t := 46) (q := 13) H I_X8_leastOn_10 (by decide) rfl
    clear H
    rcases W with ⟨c_10, H⟩ | ⟨c_10, H⟩
    · skip
      replace H := i_iln (q := 47) H I_X8_leastOn_46 rfl rfl
      obtain ⟨hr, hh⟩ := i_ir H I_X8_leastOn_47
      exfalso
      rw [hc] at c_10
      exact c_10 ((zofn_lt (by omega) (by omega)).mpr (by omega))
    · skip
      replace H := i_iln (q := 14) H I_X8_leastOn_13 rfl rfl
      replace H := i_bip (x := (-4)) (q := 16) H I_X8_leastOn_14 (by decide) rfl
      have W := i_ic_eq (t := 29) (q := 19) H I_X8_leastOn_16 (by decide) rfl
      clear H
      rcases W with ⟨c_16, H⟩ | ⟨c_16, H⟩
      · skip
        replace H := i_aln (q := 30) H I_X8_leastOn_29 rfl rfl
        replace H := i_iln (q := 31) H I_X8_leastOn_30 rfl rfl
        replace H := i_iln (q := 32) H I_X8_leastOn_31 rfl rfl
        have W := i_cv2 0 (q := 35) H I_X8_leastOn_32 K_8_141 Zm_129 rfl rfl
        clear H
        obtain ⟨r1, h1, Hc, K1, K2⟩ := W
        obtain ⟨e1, e2⟩ := t_X8_countOf hP (by omega) Hc
        have H := K1 _ _ e1 e2
        clear e1 e2 Hc K1 K2
        replace H := i_goto (q := 39) H I_X8_leastOn_35 (by decide)
        replace H := i_isn (q := 40) H I_X8_leastOn_39 rfl rfl
        replace H := i_inc (q := 43) H I_X8_leastOn_40 rfl rfl rfl
        replace H := i_goto (q := 5) H I_X8_leastOn_43 (by decide)
        have h4 := zmn_4 (f := gcn g) (n := i) (fun j hj => gok_n hg (by omega))
        have i0 := h4.mp c_16
        replace H : zE none d zm_X8_leastOn 5 [.ref 71, .int (Int32.ofNat pg), .int (zmn (gcn g) (i + 1)), .int (Int32.ofNat (i + 1))] [] m r h' := by
          rw [show zmn (gcn g) (i + 1) = gcn g i by
            rw [zmn, if_pos i0, i0]]
          rw [← zofn_s]
          exact H
        exact ih (i + 1) d r h' (by omega) H
      · skip
        replace H := i_aln (q := 20) H I_X8_leastOn_19 rfl rfl
        replace H := i_iln (q := 21) H I_X8_leastOn_20 rfl rfl
        replace H := i_iln (q := 22) H I_X8_leastOn_21 rfl rfl
        have W := i_cv2 0 (q := 25) H I_X8_leastOn_22 K_8_141 Zm_129 rfl rfl
        clear H
        obtain ⟨r1, h1, Hc, K1, K2⟩ := W
        obtain ⟨e1, e2⟩ := t_X8_countOf hP (by omega) Hc
        have H := K1 _ _ e1 e2
        clear e1 e2 Hc K1 K2
        replace H := i_iln (q := 26) H I_X8_leastOn_25 rfl rfl
        have W := i_ic_ge (t := 38) (q := 29) H I_X8_leastOn_26 (by decide) rfl
        clear H
        rcases W with ⟨c_26, H⟩ | ⟨c_26, H⟩
        · skip
          replace H := i_iln (q := 39) H I_X8_leastOn_38 rfl rfl
          replace H := i_isn (q := 40) H I_X8_leastOn_39 rfl rfl
          replace H := i_inc (q := 43) H I_X8_leastOn_40 rfl rfl rfl
          replace H := i_goto (q := 5) H I_X8_leastOn_43 (by decide)
          have h4 := zmn_4 (f := gcn g) (n := i) (fun j hj => gok_n hg (by omega))
          have i0 : ¬ i = 0 := fun e => c_16 (h4.mpr e)
          replace H : zE none d zm_X8_leastOn 5 [.ref 71, .int (Int32.ofNat pg), .int (zmn (gcn g) (i + 1)), .int (Int32.ofNat (i + 1))] [] m r h' := by
            rw [show zmn (gcn g) (i + 1) = zmn (gcn g) i by
              rw [zmn, if_neg i0, zmin, if_neg c_26]]
            rw [← zofn_s]
            exact H
          exact ih (i + 1) d r h' (by omega) H
        · skip
          replace H := i_aln (q := 30) H I_X8_leastOn_29 rfl rfl
          replace H := i_iln (q := 31) H I_X8_leastOn_30 rfl rfl
          replace H := i_iln (q := 32) H I_X8_leastOn_31 rfl rfl
          have W := i_cv2 0 (q := 35) H I_X8_leastOn_32 K_8_141 Zm_129 rfl rfl
          clear H
          obtain ⟨r1, h1, Hc, K1, K2⟩ := W
          obtain ⟨e1, e2⟩ := t_X8_countOf hP (by omega) Hc
          have H := K1 _ _ e1 e2
          clear e1 e2 Hc K1 K2
          replace H := i_goto (q := 39) H I_X8_leastOn_35 (by decide)
          replace H := i_isn (q := 40) H I_X8_leastOn_39 rfl rfl
          replace H := i_inc (q := 43) H I_X8_leastOn_40 rfl rfl rfl
          replace H := i_goto (q := 5) H I_X8_leastOn_43 (by decide)
          have h4 := zmn_4 (f := gcn g) (n := i) (fun j hj => gok_n hg (by omega))
          have i0 : ¬ i = 0 := fun e => c_16 (h4.mpr e)
          replace H : zE none d zm_X8_leastOn 5 [.ref 71, .int (Int32.ofNat pg), .int (zmn (gcn g) (i + 1)), .int (Int32.ofNat (i + 1))] [] m r h' := by
            rw [show zmn (gcn g) (i + 1) = gcn g i by
              rw [zmn, if_neg i0, zmin, if_pos c_26]]
            rw [← zofn_s]
            exact H
          exact ih (i + 1) d r h' (by omega) H
theorem t_X8_leastOn {d : Nat} {m : zM} {r : Option Value} {h' : zHp} {pg c : Nat} {g : Nat → Int32} (hP : PG m pg g) (hg : gok g c) (hc : m 71 2 = Int32.ofNat c) (H : zE none d zm_X8_leastOn 0 [.ref 71, .int (Int32.ofNat pg), .null, .null] [] m r h') : r = some (.int (zmn (gcn g) c)) ∧ h' = zhp m := by
  replace H := i_bip (x := (-4)) (q := 2) H I_X8_leastOn_0 (by decide) rfl
  replace H := i_isn (q := 3) H I_X8_leastOn_2 rfl rfl
  replace H := i_icst (x := 0) (q := 4) H I_X8_leastOn_3 (by decide) rfl
  replace H := i_isn (q := 5) H I_X8_leastOn_4 rfl rfl
  exact ln_loop hP hg hc c 0 d r h' (by omega) H
theorem t_X8_isNear {d : Nat} {m : zM} {r : Option Value} {h' : zHp} {pg i c : Nat} {g : Nat → Int32} (hP : PG m pg g) (hg : gok g c) (hc : m 71 2 = Int32.ofNat c) (hi : i < 5) (H : zE none d zm_X8_isNear 0 [.ref 71, .int (Int32.ofNat pg), .int (Int32.ofNat i)] [] m r h') : r = some (.int (if zmn (gcn g) c + (g 16 + 1) < gcn g i then 0 else 1)) ∧ h' = zhp m := by
  replace H := i_aln (q := 1) H I_X8_isNear_0 rfl rfl
  replace H := i_iln (q := 2) H I_X8_isNear_1 rfl rfl
  replace H := i_iln (q := 3) H I_X8_isNear_2 rfl rfl
  have W := i_cv2 0 (q := 6) H I_X8_isNear_3 K_8_141 Zm_129 rfl rfl
  clear H
  obtain ⟨r1, h1, Hc, K1, K2⟩ := W
  obtain ⟨e1, e2⟩ := t_X8_countOf hP (by omega) Hc
  have H := K1 _ _ e1 e2
  clear e1 e2 Hc K1 K2
  replace H := i_aln (q := 7) H I_X8_isNear_6 rfl rfl
  replace H := i_iln (q := 8) H I_X8_isNear_7 rfl rfl
  have W := i_cv1 2 (q := 11) H I_X8_isNear_8 K_8_144 Zm_130 rfl rfl
  clear H
  obtain ⟨r1, h1, Hc, K1, K2⟩ := W
  obtain ⟨e1, e2⟩ := t_X8_leastOn hP hg hc Hc
  have H := K1 _ _ e1 e2
  clear e1 e2 Hc K1 K2
  replace H := i_aln (q := 12) H I_X8_isNear_11 rfl rfl
  replace H := i_gfr (q := 15) H I_X8_isNear_12 G_8_7 cn_X8_isNear LY_71 rfl rfl
  replace H := i_iln (q := 16) H I_X8_isNear_15 rfl rfl
  replace H := i_bip (x := 16) (q := 18) H I_X8_isNear_16 (by decide) rfl
  replace H := i_iadd (q := 19) H I_X8_isNear_18 rfl
  have W := i_ia (q := 20) H I_X8_isNear_19 LY_72 rfl
  clear H
  obtain ⟨i_19, bi_19, ei_19, H⟩ := W
  replace H := i_iadd (q := 21) H I_X8_isNear_20 rfl
  replace H := i_icst (x := 1) (q := 22) H I_X8_isNear_21 (by decide) rfl
  replace H := i_iadd (q := 23) H I_X8_isNear_22 rfl
  have W := i_ic_gt (t := 30) (q := 26) H I_X8_isNear_23 (by decide) rfl
  clear H
  rcases W with ⟨c_23, H⟩ | ⟨c_23, H⟩
  · skip
    replace H := i_icst (x := 0) (q := 31) H I_X8_isNear_30 (by decide) rfl
    obtain ⟨hr, hh⟩ := i_ir H I_X8_isNear_31
    have i1 : i_19 = pg + 16 := zix3 rfl (b := 16) rfl ei_19 (by have := hP.1; omega) (by omega)
    subst i1
    rw [hP.2 16 (by omega), Int32.add_assoc] at c_23
    exact ⟨hr.trans (by rw [if_pos c_23]), hh⟩
  · skip
    replace H := i_icst (x := 1) (q := 27) H I_X8_isNear_26 (by decide) rfl
    replace H := i_goto (q := 31) H I_X8_isNear_27 (by decide)
    obtain ⟨hr, hh⟩ := i_ir H I_X8_isNear_31
    have i1 : i_19 = pg + 16 := zix3 rfl (b := 16) rfl ei_19 (by have := hP.1; omega) (by omega)
    subst i1
    rw [hP.2 16 (by omega), Int32.add_assoc] at c_23
    exact ⟨hr.trans (by rw [if_neg c_23]), hh⟩
/-- of those from lo on: the first with the least count -/
def IsW (f : Nat → Int32) (s : Int32) (lo n : Nat) (b : Int32) : Prop := (b = -4 ∧ ∀ p, lo ≤ p → p < n → zbt s p = 0) ∨ ∃ w, lo ≤ w ∧ w < n ∧ b = Int32.ofNat w ∧ ¬ zbt s w = 0 ∧ ∀ p, lo ≤ p → p < n → ¬ zbt s p = 0 → ¬ f p < f w ∧ (p < w → f w < f p)
theorem i32_le {a b c : Int32} (h1 : ¬ b < a) (h2 : ¬ c < b) : ¬ c < a := by
  rw [Int32.lt_iff_toInt_lt] at *
  omega
theorem i32_l1 {a b c : Int32} (h1 : a < b) (h2 : ¬ c < b) : a < c := by
  rw [Int32.lt_iff_toInt_lt] at *
  omega
theorem i32_l2 {a b : Int32} (h1 : a < b) : ¬ b < a := by
  rw [Int32.lt_iff_toInt_lt] at *
  omega
theorem zofn_n4 {w : Nat} (h : w < 5) : ¬ Int32.ofNat w = -4 := by
  rcases (by omega : w = 0 ∨ w = 1 ∨ w = 2 ∨ w = 3 ∨ w = 4) with rfl | rfl | rfl | rfl | rfl <;> decide
theorem zwb_W (f : Nat → Int32) (s : Int32) : ∀ n, n ≤ 5 → IsW f s 0 n (zwb f s n)
  | 0, _ => Or.inl ⟨rfl, fun p _ h => by omega⟩
  | n + 1, hn => by
    have ih := zwb_W f s n (by omega)
    rw [zwb]
    by_cases hz : zbt s n = 0
    · rw [if_pos hz]
      rcases ih with ⟨e, h⟩ | ⟨w, w0, w1, w2, w3, w4⟩
      · refine Or.inl ⟨e, fun p h1 h2 => ?_⟩
        by_cases hp : p = n
        · rw [hp]; exact hz
        · exact h p h1 (by omega)
      · refine Or.inr ⟨w, w0, by omega, w2, w3, fun p h1 h2 h3 => ?_⟩
        by_cases hp : p = n
        · rw [hp] at h3; exact absurd hz h3
        · exact w4 p h1 (by omega) h3
    · rw [if_neg hz]
      rcases ih with ⟨e, h⟩ | ⟨w, w0, w1, w2, w3, w4⟩
      · rw [if_pos e]
        refine Or.inr ⟨n, by omega, by omega, rfl, hz, fun p h1 h2 h3 => ?_⟩
        by_cases hp : p = n
        · subst hp
          exact ⟨fun q => i32_l2 q q, fun q => absurd q (Nat.lt_irrefl _)⟩
        · exact absurd (h p h1 (by omega)) h3
      · rw [w2, if_neg (zofn_n4 (by omega)), Int32.toNatClampNeg_ofNat_of_lt (by omega)]
        by_cases hl : f n < f w
        · rw [if_pos hl]
          refine Or.inr ⟨n, by omega, by omega, rfl, hz, fun p h1 h2 h3 => ?_⟩
          by_cases hp : p = n
          · subst hp
            exact ⟨fun q => i32_l2 q q, fun q => absurd q (Nat.lt_irrefl _)⟩
          · have := (w4 p h1 (by omega) h3).1
            have h5 := i32_l1 hl this
            exact ⟨i32_l2 h5, fun _ => h5⟩
        · rw [if_neg hl]
          refine Or.inr ⟨w, w0, by omega, rfl, w3, fun p h1 h2 h3 => ?_⟩
          by_cases hp : p = n
          · subst hp
            exact ⟨hl, fun q => by omega⟩
          · exact w4 p h1 (by omega) h3
theorem IsW_u {f : Nat → Int32} {s b b2 : Int32} {lo n : Nat} (h : IsW f s lo n b) (h2 : IsW f s lo n b2) : b = b2 := by
  rcases h with ⟨e, k⟩ | ⟨w, w0, w1, w2, w3, w4⟩
  · rcases h2 with ⟨e2, _⟩ | ⟨v, v0, v1, v2, v3, v4⟩
    · rw [e, e2]
    · exact absurd (k v v0 v1) v3
  · rcases h2 with ⟨e2, k⟩ | ⟨v, v0, v1, v2, v3, v4⟩
    · exact absurd (k w w0 w1) w3
    · have a1 := w4 v v0 v1 v3
      have a2 := v4 w w0 w1 w3
      have : w = v := by
        rcases Nat.lt_or_ge w v with q | q
        · exact absurd (a2.2 q) (fun z => a1.1 z)
        · rcases Nat.lt_or_ge v w with q2 | q2
          · exact absurd (a1.2 q2) (fun z => a2.1 z)
          · omega
      rw [w2, v2, this]
theorem IsW_s {f : Nat → Int32} {s b : Int32} {j n : Nat} (h : IsW f s (j + 1) n b) (hj : j < n) (hn : n ≤ 5) : (zbt s j = 0 → IsW f s j n b) ∧ (¬ zbt s j = 0 → (b = -4 ∨ ∃ w, w < 5 ∧ b = Int32.ofNat w ∧ ¬ f w < f j) → IsW f s j n (Int32.ofNat j)) ∧ (¬ zbt s j = 0 → (∃ w, w < 5 ∧ b = Int32.ofNat w ∧ f w < f j) → IsW f s j n b) := by
  refine ⟨fun hz => ?_, fun hz hb => ?_, fun hz hb => ?_⟩
  · rcases h with ⟨e, k⟩ | ⟨w, w0, w1, w2, w3, w4⟩
    · refine Or.inl ⟨e, fun p h1 h2 => ?_⟩
      by_cases hp : p = j
      · rw [hp]; exact hz
      · exact k p (by omega) h2
    · refine Or.inr ⟨w, by omega, w1, w2, w3, fun p h1 h2 h3 => ?_⟩
      by_cases hp : p = j
      · rw [hp] at h3; exact absurd hz h3
      · exact w4 p (by omega) h2 h3
  · refine Or.inr ⟨j, Nat.le_refl _, hj, rfl, hz, fun p h1 h2 h3 => ?_⟩
    by_cases hp : p = j
    · subst hp
      exact ⟨fun q => i32_l2 q q, fun q => absurd q (Nat.lt_irrefl _)⟩
    · refine ⟨?_, fun q => by omega⟩
      rcases h with ⟨e, k⟩ | ⟨w, w0, w1, w2, w3, w4⟩
      · exact absurd (k p (by omega) h2) h3
      · rcases hb with e | ⟨v, v1, v2, v3⟩
        · rw [w2] at e
          exact absurd e (zofn_n4 (by omega))
        · have e : v = w := zofn (v2.symm.trans w2) (by omega) (by omega)
          subst e
          exact i32_le v3 (w4 p (by omega) h2 h3).1
  · obtain ⟨v, v1, v2, v3⟩ := hb
    rcases h with ⟨e, k⟩ | ⟨w, w0, w1, w2, w3, w4⟩
    · rw [v2] at e
      exact absurd e (zofn_n4 v1)
    · have e : v = w := zofn (v2.symm.trans w2) (by omega) (by omega)
      subst e
      refine Or.inr ⟨v, by omega, w1, w2, w3, fun p h1 h2 h3 => ?_⟩
      by_cases hp : p = j
      · subst hp
        exact ⟨i32_l2 v3, fun _ => v3⟩
      · exact w4 p (by omega) h2 h3
theorem tr_loop {m : zM} {pg c : Nat} {g : Nat → Int32} {s : Int32} (hP : PG m pg g) (hc5 : c ≤ 5) : ∀ (j d : Nat) (r : Option Value) (h' : zHp) (b : Int32), j ≤ c → IsW (gcn g) s j c b → zE none d zm_X8_triesOn 11 [.ref 71, .int (Int32.ofNat pg), .int s, .int b, .int (Int32.ofNat j - 1), .null] [] m r h' → ∃ b2, IsW (gcn g) s 0 c b2 ∧ zE none d zm_X8_triesOn 73 [.ref 71, .int (Int32.ofNat pg), .int s, .int b2, .null, .null] [] m r h' := by
  intro j
  induction j with
  | zero =>
    intro d r h' b hj hW H
    replace H := i_il (q := 13) H I_X8_triesOn_11 rfl rfl
    have W := i_if_lt (t := 73) (q := 16) H I_X8_triesOn_13 (by decide) rfl
    clear H
    rcases W with ⟨c_13, H⟩ | ⟨c_13, H⟩
    · skip
      replace H := i_w [true, true, true, true, false, false] H
      exact ⟨b, hW, H⟩
    · exfalso
      exact c_13 (by decide)
  | succ j ih =>
    intro d r h' b hj hW H
    replace H : zE none d zm_X8_triesOn 11 [.ref 71, .int (Int32.ofNat pg), .int s, .int b, .int (Int32.ofNat j), .null] [] m r h' := by
      rw [show Int32.ofNat (j + 1) - 1 = Int32.ofNat j by rw [← zofn_1, Int32.add_sub_cancel]] at H
      exact H
    replace H := i_il (q := 13) H I_X8_triesOn_11 rfl rfl
    have W := i_if_lt (t := 73) (q := 16) H I_X8_triesOn_13 (by decide) rfl
    clear H
    rcases W with ⟨c_13, H⟩ | ⟨c_13, H⟩
    · skip
      exfalso
      rw [Int32.lt_iff_toInt_lt, zofn_t (by omega)] at c_13
      have e0 : (0 : Int32).toInt = 0 := rfl
      omega
    · skip
      replace H := i_iln (q := 17) H I_X8_triesOn_16 rfl rfl
      replace H := i_il (q := 19) H I_X8_triesOn_17 rfl rfl
      replace H := i_ishr (q := 20) H I_X8_triesOn_19 rfl
      replace H := i_icst (x := 1) (q := 21) H I_X8_triesOn_20 (by decide) rfl
      replace H := i_iand (q := 22) H I_X8_triesOn_21 rfl
      replace H := i_icst (x := 1) (q := 23) H I_X8_triesOn_22 (by decide) rfl
      have W := i_ic_ne (t := 52) (q := 26) H I_X8_triesOn_23 (by decide) rfl
      clear H
      rcases W with ⟨c_23, H⟩ | ⟨c_23, H⟩
      · skip
        replace H := i_icst (x := 0) (q := 53) H I_X8_triesOn_52 (by decide) rfl
        replace H := i_is (q := 55) H I_X8_triesOn_53 rfl rfl
        replace H := i_il (q := 57) H I_X8_triesOn_55 rfl rfl
        have W := i_if_eq (t := 65) (q := 60) H I_X8_triesOn_57 (by decide) rfl
        clear H
        rcases W with ⟨c_57, H⟩ | ⟨c_57, H⟩
        · skip
          replace H := i_iln (q := 66) H I_X8_triesOn_65 rfl rfl
          replace H := i_isn (q := 67) H I_X8_triesOn_66 rfl rfl
          replace H := i_inc (q := 70) H I_X8_triesOn_67 rfl rfl rfl
          replace H := i_goto (q := 11) H I_X8_triesOn_70 (by decide)
          have hz : zbt s j = 0 := Decidable.not_not.mp (fun q => c_23 (zbt_1.mpr q))
          replace H := i_w [true, true, true, true, true, false] H
          replace H : zE none d zm_X8_triesOn 11 [.ref 71, .int (Int32.ofNat pg), .int s, .int (b), .int (Int32.ofNat j - 1), .null] [] m r h' := by
            rw [show Int32.ofNat j - 1 = Int32.ofNat j + Int32.ofInt (-1) by rw [Int32.sub_eq_add_neg]; rfl]
            exact H
          exact ih d r h' _ (by omega) ((IsW_s hW (by omega) hc5).1 hz) H
        · skip
          replace H := i_il (q := 62) H I_X8_triesOn_60 rfl rfl
          replace H := i_goto (q := 66) H I_X8_triesOn_62 (by decide)
          replace H := i_isn (q := 67) H I_X8_triesOn_66 rfl rfl
          replace H := i_inc (q := 70) H I_X8_triesOn_67 rfl rfl rfl
          replace H := i_goto (q := 11) H I_X8_triesOn_70 (by decide)
          exact absurd rfl c_57
      · skip
        replace H := i_iln (q := 27) H I_X8_triesOn_26 rfl rfl
        replace H := i_bip (x := (-4)) (q := 29) H I_X8_triesOn_27 (by decide) rfl
        have W := i_ic_eq (t := 48) (q := 32) H I_X8_triesOn_29 (by decide) rfl
        clear H
        rcases W with ⟨c_29, H⟩ | ⟨c_29, H⟩
        · skip
          replace H := i_icst (x := 1) (q := 49) H I_X8_triesOn_48 (by decide) rfl
          replace H := i_goto (q := 53) H I_X8_triesOn_49 (by decide)
          replace H := i_is (q := 55) H I_X8_triesOn_53 rfl rfl
          replace H := i_il (q := 57) H I_X8_triesOn_55 rfl rfl
          have W := i_if_eq (t := 65) (q := 60) H I_X8_triesOn_57 (by decide) rfl
          clear H
          rcases W with ⟨c_57, H⟩ | ⟨c_57, H⟩
          · skip
            replace H := i_iln (q := 66) H I_X8_triesOn_65 rfl rfl
            replace H := i_isn (q := 67) H I_X8_triesOn_66 rfl rfl
            replace H := i_inc (q := 70) H I_X8_triesOn_67 rfl rfl rfl
            replace H := i_goto (q := 11) H I_X8_triesOn_70 (by decide)
            exact absurd c_57 (by decide)
          · skip
            replace H := i_il (q := 62) H I_X8_triesOn_60 rfl rfl
            replace H := i_goto (q := 66) H I_X8_triesOn_62 (by decide)
            replace H := i_isn (q := 67) H I_X8_triesOn_66 rfl rfl
            replace H := i_inc (q := 70) H I_X8_triesOn_67 rfl rfl rfl
            replace H := i_goto (q := 11) H I_X8_triesOn_70 (by decide)
            have hz : ¬ zbt s j = 0 := zbt_1.mp c_23
            replace H := i_w [true, true, true, true, true, false] H
            replace H : zE none d zm_X8_triesOn 11 [.ref 71, .int (Int32.ofNat pg), .int s, .int (Int32.ofNat j), .int (Int32.ofNat j - 1), .null] [] m r h' := by
              rw [show Int32.ofNat j - 1 = Int32.ofNat j + Int32.ofInt (-1) by rw [Int32.sub_eq_add_neg]; rfl]
              exact H
            exact ih d r h' _ (by omega) ((IsW_s hW (by omega) hc5).2.1 hz (Or.inl c_29)) H
        · skip
          replace H := i_aln (q := 33) H I_X8_triesOn_32 rfl rfl
          replace H := i_iln (q := 34) H I_X8_triesOn_33 rfl rfl
          replace H := i_il (q := 36) H I_X8_triesOn_34 rfl rfl
          have W := i_cv2 0 (q := 39) H I_X8_triesOn_36 K_8_141 Zm_129 rfl rfl
          clear H
          obtain ⟨r1, h1, Hc, K1, K2⟩ := W
          obtain ⟨e1, e2⟩ := t_X8_countOf hP (by omega) Hc
          have H := K1 _ _ e1 e2
          clear e1 e2 Hc K1 K2
          replace H := i_aln (q := 40) H I_X8_triesOn_39 rfl rfl
          replace H := i_iln (q := 41) H I_X8_triesOn_40 rfl rfl
          replace H := i_iln (q := 42) H I_X8_triesOn_41 rfl rfl
          have W := i_cv2 0 (q := 45) H I_X8_triesOn_42 K_8_141 Zm_129 rfl rfl
          clear H
          obtain ⟨r1, h1, Hc, K1, K2⟩ := W
          obtain ⟨bw, bw5, ebw⟩ : ∃ w, w < 5 ∧ b = Int32.ofNat w := by
            rcases hW with ⟨e, _⟩ | ⟨w, w0, w1, w2, _⟩
            · exact absurd e c_29
            · exact ⟨w, by omega, w2⟩
          rw [ebw] at Hc
          obtain ⟨e1, e2⟩ := t_X8_countOf hP bw5 Hc
          have H := K1 _ _ e1 e2
          clear e1 e2 Hc K1 K2
          have W := i_ic_gt (t := 52) (q := 48) H I_X8_triesOn_45 (by decide) rfl
          clear H
          rcases W with ⟨c_45, H⟩ | ⟨c_45, H⟩
          · skip
            replace H := i_icst (x := 0) (q := 53) H I_X8_triesOn_52 (by decide) rfl
            replace H := i_is (q := 55) H I_X8_triesOn_53 rfl rfl
            replace H := i_il (q := 57) H I_X8_triesOn_55 rfl rfl
            have W := i_if_eq (t := 65) (q := 60) H I_X8_triesOn_57 (by decide) rfl
            clear H
            rcases W with ⟨c_57, H⟩ | ⟨c_57, H⟩
            · skip
              replace H := i_iln (q := 66) H I_X8_triesOn_65 rfl rfl
              replace H := i_isn (q := 67) H I_X8_triesOn_66 rfl rfl
              replace H := i_inc (q := 70) H I_X8_triesOn_67 rfl rfl rfl
              replace H := i_goto (q := 11) H I_X8_triesOn_70 (by decide)
              have hz : ¬ zbt s j = 0 := zbt_1.mp c_23
              replace H := i_w [true, true, true, true, true, false] H
              replace H : zE none d zm_X8_triesOn 11 [.ref 71, .int (Int32.ofNat pg), .int s, .int (b), .int (Int32.ofNat j - 1), .null] [] m r h' := by
                rw [show Int32.ofNat j - 1 = Int32.ofNat j + Int32.ofInt (-1) by rw [Int32.sub_eq_add_neg]; rfl]
                exact H
              exact ih d r h' _ (by omega) ((IsW_s hW (by omega) hc5).2.2 hz ⟨bw, bw5, ebw, c_45⟩) H
            · skip
              replace H := i_il (q := 62) H I_X8_triesOn_60 rfl rfl
              replace H := i_goto (q := 66) H I_X8_triesOn_62 (by decide)
              replace H := i_isn (q := 67) H I_X8_triesOn_66 rfl rfl
              replace H := i_inc (q := 70) H I_X8_triesOn_67 rfl rfl rfl
              replace H := i_goto (q := 11) H I_X8_triesOn_70 (by decide)
              exact absurd rfl c_57
          · skip
            replace H := i_icst (x := 1) (q := 49) H I_X8_triesOn_48 (by decide) rfl
            replace H := i_goto (q := 53) H I_X8_triesOn_49 (by decide)
            replace H := i_is (q := 55) H I_X8_triesOn_53 rfl rfl
            replace H := i_il (q := 57) H I_X8_triesOn_55 rfl rfl
            have W := i_if_eq (t := 65) (q := 60) H I_X8_triesOn_57 (by decide) rfl
            clear H
            rcases W with ⟨c_57, H⟩ | ⟨c_57, H⟩
            · skip
              replace H := i_iln (q := 66) H I_X8_triesOn_65 rfl rfl
              replace H := i_isn (q := 67) H I_X8_triesOn_66 rfl rfl
              replace H := i_inc (q := 70) H I_X8_triesOn_67 rfl rfl rfl
              replace H := i_goto (q := 11) H I_X8_triesOn_70 (by decide)
              exact absurd c_57 (by decide)
            · skip
              replace H := i_il (q := 62) H I_X8_triesOn_60 rfl rfl
              replace H := i_goto (q := 66) H I_X8_triesOn_62 (by decide)
              replace H := i_isn (q := 67) H I_X8_triesOn_66 rfl rfl
              replace H := i_inc (q := 70) H I_X8_triesOn_67 rfl rfl rfl
              replace H := i_goto (q := 11) H I_X8_triesOn_70 (by decide)
              have hz : ¬ zbt s j = 0 := zbt_1.mp c_23
              replace H := i_w [true, true, true, true, true, false] H
              replace H : zE none d zm_X8_triesOn 11 [.ref 71, .int (Int32.ofNat pg), .int s, .int (Int32.ofNat j), .int (Int32.ofNat j - 1), .null] [] m r h' := by
                rw [show Int32.ofNat j - 1 = Int32.ofNat j + Int32.ofInt (-1) by rw [Int32.sub_eq_add_neg]; rfl]
                exact H
              exact ih d r h' _ (by omega) ((IsW_s hW (by omega) hc5).2.1 hz (Or.inr ⟨bw, bw5, ebw, c_45⟩)) H
