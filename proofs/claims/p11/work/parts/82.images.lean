/-! become, copies, keep, back -/
theorem It_X7_back : zm_X7_back.2.2.2.2.2 = zt_X7_back := by
  unfold zm_X7_back
  rfl
theorem It_X7_keep : zm_X7_keep.2.2.2.2.2 = zt_X7_keep := by
  unfold zm_X7_keep
  rfl
theorem It_X8_back : zm_X8_back.2.2.2.2.2 = zt_X8_back := by
  unfold zm_X8_back
  rfl
theorem It_X8_copies : zm_X8_copies.2.2.2.2.2 = zt_X8_copies := by
  unfold zm_X8_copies
  rfl
theorem It_X8_keep : zm_X8_keep.2.2.2.2.2 = zt_X8_keep := by
  unfold zm_X8_keep
  rfl
theorem I_X7_back_0 : zin zm_X7_back.2.2.2.2.2 0 = some (.iload_n 1, 1) := by rw [It_X7_back]; rfl
theorem I_X7_back_1 : zin zm_X7_back.2.2.2.2.2 1 = some (.ifCond .lt 8, 3) := by rw [It_X7_back]; rfl
theorem I_X7_back_4 : zin zm_X7_back.2.2.2.2.2 4 = some (.iload_n 1, 1) := by rw [It_X7_back]; rfl
theorem I_X7_back_5 : zin zm_X7_back.2.2.2.2.2 5 = some (.iconst 2, 1) := by rw [It_X7_back]; rfl
theorem I_X7_back_6 : zin zm_X7_back.2.2.2.2.2 6 = some (.if_icmp .lt 5, 3) := by rw [It_X7_back]; rfl
theorem I_X7_back_9 : zin zm_X7_back.2.2.2.2.2 9 = some (.iconst (-1), 1) := by rw [It_X7_back]; rfl
theorem I_X7_back_10 : zin zm_X7_back.2.2.2.2.2 10 = some (.ireturn, 1) := by rw [It_X7_back]; rfl
theorem I_X7_back_11 : zin zm_X7_back.2.2.2.2.2 11 = some (.aload_n 0, 1) := by rw [It_X7_back]; rfl
theorem I_X7_back_12 : zin zm_X7_back.2.2.2.2.2 12 = some (.getfield 48, 3) := by rw [It_X7_back]; rfl
theorem I_X7_back_15 : zin zm_X7_back.2.2.2.2.2 15 = some (.iload_n 1, 1) := by rw [It_X7_back]; rfl
theorem I_X7_back_16 : zin zm_X7_back.2.2.2.2.2 16 = some (.baload, 1) := by rw [It_X7_back]; rfl
theorem I_X7_back_17 : zin zm_X7_back.2.2.2.2.2 17 = some (.ifCond .ne 6, 3) := by rw [It_X7_back]; rfl
theorem I_X7_back_20 : zin zm_X7_back.2.2.2.2.2 20 = some (.bipush (-2), 2) := by rw [It_X7_back]; rfl
theorem I_X7_back_22 : zin zm_X7_back.2.2.2.2.2 22 = some (.ireturn, 1) := by rw [It_X7_back]; rfl
theorem I_X7_back_23 : zin zm_X7_back.2.2.2.2.2 23 = some (.aload_n 0, 1) := by rw [It_X7_back]; rfl
theorem I_X7_back_24 : zin zm_X7_back.2.2.2.2.2 24 = some (.getfield 19, 3) := by rw [It_X7_back]; rfl
theorem I_X7_back_27 : zin zm_X7_back.2.2.2.2.2 27 = some (.aload_n 0, 1) := by rw [It_X7_back]; rfl
theorem I_X7_back_28 : zin zm_X7_back.2.2.2.2.2 28 = some (.getfield 44, 3) := by rw [It_X7_back]; rfl
theorem I_X7_back_31 : zin zm_X7_back.2.2.2.2.2 31 = some (.iload_n 1, 1) := by rw [It_X7_back]; rfl
theorem I_X7_back_32 : zin zm_X7_back.2.2.2.2.2 32 = some (.aaload, 1) := by rw [It_X7_back]; rfl
theorem I_X7_back_33 : zin zm_X7_back.2.2.2.2.2 33 = some (.invokevirtual 77, 3) := by rw [It_X7_back]; rfl
theorem I_X7_back_36 : zin zm_X7_back.2.2.2.2.2 36 = some (.aload_n 0, 1) := by rw [It_X7_back]; rfl
theorem I_X7_back_37 : zin zm_X7_back.2.2.2.2.2 37 = some (.getfield 19, 3) := by rw [It_X7_back]; rfl
theorem I_X7_back_40 : zin zm_X7_back.2.2.2.2.2 40 = some (.getfield 96, 3) := by rw [It_X7_back]; rfl
theorem I_X7_back_43 : zin zm_X7_back.2.2.2.2.2 43 = some (.ireturn, 1) := by rw [It_X7_back]; rfl
theorem I_X7_keep_0 : zin zm_X7_keep.2.2.2.2.2 0 = some (.iload_n 1, 1) := by rw [It_X7_keep]; rfl
theorem I_X7_keep_1 : zin zm_X7_keep.2.2.2.2.2 1 = some (.ifCond .lt 8, 3) := by rw [It_X7_keep]; rfl
theorem I_X7_keep_4 : zin zm_X7_keep.2.2.2.2.2 4 = some (.iload_n 1, 1) := by rw [It_X7_keep]; rfl
theorem I_X7_keep_5 : zin zm_X7_keep.2.2.2.2.2 5 = some (.iconst 2, 1) := by rw [It_X7_keep]; rfl
theorem I_X7_keep_6 : zin zm_X7_keep.2.2.2.2.2 6 = some (.if_icmp .lt 5, 3) := by rw [It_X7_keep]; rfl
theorem I_X7_keep_9 : zin zm_X7_keep.2.2.2.2.2 9 = some (.iconst (-1), 1) := by rw [It_X7_keep]; rfl
theorem I_X7_keep_10 : zin zm_X7_keep.2.2.2.2.2 10 = some (.ireturn, 1) := by rw [It_X7_keep]; rfl
theorem I_X7_keep_11 : zin zm_X7_keep.2.2.2.2.2 11 = some (.aload_n 0, 1) := by rw [It_X7_keep]; rfl
theorem I_X7_keep_12 : zin zm_X7_keep.2.2.2.2.2 12 = some (.getfield 48, 3) := by rw [It_X7_keep]; rfl
theorem I_X7_keep_15 : zin zm_X7_keep.2.2.2.2.2 15 = some (.iload_n 1, 1) := by rw [It_X7_keep]; rfl
theorem I_X7_keep_16 : zin zm_X7_keep.2.2.2.2.2 16 = some (.baload, 1) := by rw [It_X7_keep]; rfl
theorem I_X7_keep_17 : zin zm_X7_keep.2.2.2.2.2 17 = some (.ifCond .eq 7, 3) := by rw [It_X7_keep]; rfl
theorem I_X7_keep_20 : zin zm_X7_keep.2.2.2.2.2 20 = some (.iconst 1, 1) := by rw [It_X7_keep]; rfl
theorem I_X7_keep_21 : zin zm_X7_keep.2.2.2.2.2 21 = some (.goto 4, 3) := by rw [It_X7_keep]; rfl
theorem I_X7_keep_24 : zin zm_X7_keep.2.2.2.2.2 24 = some (.iconst 0, 1) := by rw [It_X7_keep]; rfl
theorem I_X7_keep_25 : zin zm_X7_keep.2.2.2.2.2 25 = some (.istore_n 2, 1) := by rw [It_X7_keep]; rfl
theorem I_X7_keep_26 : zin zm_X7_keep.2.2.2.2.2 26 = some (.aload_n 0, 1) := by rw [It_X7_keep]; rfl
theorem I_X7_keep_27 : zin zm_X7_keep.2.2.2.2.2 27 = some (.getfield 44, 3) := by rw [It_X7_keep]; rfl
theorem I_X7_keep_30 : zin zm_X7_keep.2.2.2.2.2 30 = some (.iload_n 1, 1) := by rw [It_X7_keep]; rfl
theorem I_X7_keep_31 : zin zm_X7_keep.2.2.2.2.2 31 = some (.aaload, 1) := by rw [It_X7_keep]; rfl
theorem I_X7_keep_32 : zin zm_X7_keep.2.2.2.2.2 32 = some (.aload_n 0, 1) := by rw [It_X7_keep]; rfl
theorem I_X7_keep_33 : zin zm_X7_keep.2.2.2.2.2 33 = some (.getfield 19, 3) := by rw [It_X7_keep]; rfl
theorem I_X7_keep_36 : zin zm_X7_keep.2.2.2.2.2 36 = some (.invokevirtual 77, 3) := by rw [It_X7_keep]; rfl
theorem I_X7_keep_39 : zin zm_X7_keep.2.2.2.2.2 39 = some (.aload_n 0, 1) := by rw [It_X7_keep]; rfl
theorem I_X7_keep_40 : zin zm_X7_keep.2.2.2.2.2 40 = some (.getfield 48, 3) := by rw [It_X7_keep]; rfl
theorem I_X7_keep_43 : zin zm_X7_keep.2.2.2.2.2 43 = some (.iload_n 1, 1) := by rw [It_X7_keep]; rfl
theorem I_X7_keep_44 : zin zm_X7_keep.2.2.2.2.2 44 = some (.iconst 1, 1) := by rw [It_X7_keep]; rfl
theorem I_X7_keep_45 : zin zm_X7_keep.2.2.2.2.2 45 = some (.bastore, 1) := by rw [It_X7_keep]; rfl
theorem I_X7_keep_46 : zin zm_X7_keep.2.2.2.2.2 46 = some (.iload_n 2, 1) := by rw [It_X7_keep]; rfl
theorem I_X7_keep_47 : zin zm_X7_keep.2.2.2.2.2 47 = some (.ireturn, 1) := by rw [It_X7_keep]; rfl
theorem I_X8_back_0 : zin zm_X8_back.2.2.2.2.2 0 = some (.iload_n 1, 1) := by rw [It_X8_back]; rfl
theorem I_X8_back_1 : zin zm_X8_back.2.2.2.2.2 1 = some (.i2l, 1) := by rw [It_X8_back]; rfl
theorem I_X8_back_2 : zin zm_X8_back.2.2.2.2.2 2 = some (.lconst 0, 1) := by rw [It_X8_back]; rfl
theorem I_X8_back_3 : zin zm_X8_back.2.2.2.2.2 3 = some (.lconst 1, 1) := by rw [It_X8_back]; rfl
theorem I_X8_back_4 : zin zm_X8_back.2.2.2.2.2 4 = some (.invokestatic 55, 3) := by rw [It_X8_back]; rfl
theorem I_X8_back_7 : zin zm_X8_back.2.2.2.2.2 7 = some (.ifCond .ne 5, 3) := by rw [It_X8_back]; rfl
theorem I_X8_back_10 : zin zm_X8_back.2.2.2.2.2 10 = some (.iconst (-1), 1) := by rw [It_X8_back]; rfl
theorem I_X8_back_11 : zin zm_X8_back.2.2.2.2.2 11 = some (.ireturn, 1) := by rw [It_X8_back]; rfl
theorem I_X8_back_12 : zin zm_X8_back.2.2.2.2.2 12 = some (.aload_n 0, 1) := by rw [It_X8_back]; rfl
theorem I_X8_back_13 : zin zm_X8_back.2.2.2.2.2 13 = some (.getfield 41, 3) := by rw [It_X8_back]; rfl
theorem I_X8_back_16 : zin zm_X8_back.2.2.2.2.2 16 = some (.iload_n 1, 1) := by rw [It_X8_back]; rfl
theorem I_X8_back_17 : zin zm_X8_back.2.2.2.2.2 17 = some (.baload, 1) := by rw [It_X8_back]; rfl
theorem I_X8_back_18 : zin zm_X8_back.2.2.2.2.2 18 = some (.ifCond .ne 6, 3) := by rw [It_X8_back]; rfl
theorem I_X8_back_21 : zin zm_X8_back.2.2.2.2.2 21 = some (.bipush (-2), 2) := by rw [It_X8_back]; rfl
theorem I_X8_back_23 : zin zm_X8_back.2.2.2.2.2 23 = some (.ireturn, 1) := by rw [It_X8_back]; rfl
theorem I_X8_back_24 : zin zm_X8_back.2.2.2.2.2 24 = some (.aload_n 0, 1) := by rw [It_X8_back]; rfl
theorem I_X8_back_25 : zin zm_X8_back.2.2.2.2.2 25 = some (.bipush 27, 2) := by rw [It_X8_back]; rfl
theorem I_X8_back_27 : zin zm_X8_back.2.2.2.2.2 27 = some (.iload_n 1, 1) := by rw [It_X8_back]; rfl
theorem I_X8_back_28 : zin zm_X8_back.2.2.2.2.2 28 = some (.iconst 1, 1) := by rw [It_X8_back]; rfl
theorem I_X8_back_29 : zin zm_X8_back.2.2.2.2.2 29 = some (.iadd, 1) := by rw [It_X8_back]; rfl
theorem I_X8_back_30 : zin zm_X8_back.2.2.2.2.2 30 = some (.imul, 1) := by rw [It_X8_back]; rfl
theorem I_X8_back_31 : zin zm_X8_back.2.2.2.2.2 31 = some (.iconst 0, 1) := by rw [It_X8_back]; rfl
theorem I_X8_back_32 : zin zm_X8_back.2.2.2.2.2 32 = some (.invokevirtual 188, 3) := by rw [It_X8_back]; rfl
theorem I_X8_back_35 : zin zm_X8_back.2.2.2.2.2 35 = some (.aload_n 0, 1) := by rw [It_X8_back]; rfl
theorem I_X8_back_36 : zin zm_X8_back.2.2.2.2.2 36 = some (.getfield 7, 3) := by rw [It_X8_back]; rfl
theorem I_X8_back_39 : zin zm_X8_back.2.2.2.2.2 39 = some (.bipush 17, 2) := by rw [It_X8_back]; rfl
theorem I_X8_back_41 : zin zm_X8_back.2.2.2.2.2 41 = some (.iaload, 1) := by rw [It_X8_back]; rfl
theorem I_X8_back_42 : zin zm_X8_back.2.2.2.2.2 42 = some (.ireturn, 1) := by rw [It_X8_back]; rfl
theorem I_X8_copies_0 : zin zm_X8_copies.2.2.2.2.2 0 = some (.iconst 0, 1) := by rw [It_X8_copies]; rfl
theorem I_X8_copies_1 : zin zm_X8_copies.2.2.2.2.2 1 = some (.istore_n 3, 1) := by rw [It_X8_copies]; rfl
theorem I_X8_copies_2 : zin zm_X8_copies.2.2.2.2.2 2 = some (.iload_n 3, 1) := by rw [It_X8_copies]; rfl
theorem I_X8_copies_3 : zin zm_X8_copies.2.2.2.2.2 3 = some (.bipush 27, 2) := by rw [It_X8_copies]; rfl
theorem I_X8_copies_5 : zin zm_X8_copies.2.2.2.2.2 5 = some (.if_icmp .ge 25, 3) := by rw [It_X8_copies]; rfl
theorem I_X8_copies_8 : zin zm_X8_copies.2.2.2.2.2 8 = some (.aload_n 0, 1) := by rw [It_X8_copies]; rfl
theorem I_X8_copies_9 : zin zm_X8_copies.2.2.2.2.2 9 = some (.getfield 7, 3) := by rw [It_X8_copies]; rfl
theorem I_X8_copies_12 : zin zm_X8_copies.2.2.2.2.2 12 = some (.iload_n 2, 1) := by rw [It_X8_copies]; rfl
theorem I_X8_copies_13 : zin zm_X8_copies.2.2.2.2.2 13 = some (.iload_n 3, 1) := by rw [It_X8_copies]; rfl
theorem I_X8_copies_14 : zin zm_X8_copies.2.2.2.2.2 14 = some (.iadd, 1) := by rw [It_X8_copies]; rfl
theorem I_X8_copies_15 : zin zm_X8_copies.2.2.2.2.2 15 = some (.aload_n 0, 1) := by rw [It_X8_copies]; rfl
theorem I_X8_copies_16 : zin zm_X8_copies.2.2.2.2.2 16 = some (.getfield 7, 3) := by rw [It_X8_copies]; rfl
theorem I_X8_copies_19 : zin zm_X8_copies.2.2.2.2.2 19 = some (.iload_n 1, 1) := by rw [It_X8_copies]; rfl
theorem I_X8_copies_20 : zin zm_X8_copies.2.2.2.2.2 20 = some (.iload_n 3, 1) := by rw [It_X8_copies]; rfl
theorem I_X8_copies_21 : zin zm_X8_copies.2.2.2.2.2 21 = some (.iadd, 1) := by rw [It_X8_copies]; rfl
theorem I_X8_copies_22 : zin zm_X8_copies.2.2.2.2.2 22 = some (.iaload, 1) := by rw [It_X8_copies]; rfl
theorem I_X8_copies_23 : zin zm_X8_copies.2.2.2.2.2 23 = some (.iastore, 1) := by rw [It_X8_copies]; rfl
theorem I_X8_copies_24 : zin zm_X8_copies.2.2.2.2.2 24 = some (.iinc 3 1, 3) := by rw [It_X8_copies]; rfl
theorem I_X8_copies_27 : zin zm_X8_copies.2.2.2.2.2 27 = some (.goto (-25), 3) := by rw [It_X8_copies]; rfl
theorem I_X8_copies_30 : zin zm_X8_copies.2.2.2.2.2 30 = some (.return_, 1) := by rw [It_X8_copies]; rfl
theorem I_X8_keep_0 : zin zm_X8_keep.2.2.2.2.2 0 = some (.iload_n 1, 1) := by rw [It_X8_keep]; rfl
theorem I_X8_keep_1 : zin zm_X8_keep.2.2.2.2.2 1 = some (.i2l, 1) := by rw [It_X8_keep]; rfl
theorem I_X8_keep_2 : zin zm_X8_keep.2.2.2.2.2 2 = some (.lconst 0, 1) := by rw [It_X8_keep]; rfl
theorem I_X8_keep_3 : zin zm_X8_keep.2.2.2.2.2 3 = some (.lconst 1, 1) := by rw [It_X8_keep]; rfl
theorem I_X8_keep_4 : zin zm_X8_keep.2.2.2.2.2 4 = some (.invokestatic 55, 3) := by rw [It_X8_keep]; rfl
theorem I_X8_keep_7 : zin zm_X8_keep.2.2.2.2.2 7 = some (.ifCond .ne 5, 3) := by rw [It_X8_keep]; rfl
theorem I_X8_keep_10 : zin zm_X8_keep.2.2.2.2.2 10 = some (.iconst (-1), 1) := by rw [It_X8_keep]; rfl
theorem I_X8_keep_11 : zin zm_X8_keep.2.2.2.2.2 11 = some (.ireturn, 1) := by rw [It_X8_keep]; rfl
theorem I_X8_keep_12 : zin zm_X8_keep.2.2.2.2.2 12 = some (.aload_n 0, 1) := by rw [It_X8_keep]; rfl
theorem I_X8_keep_13 : zin zm_X8_keep.2.2.2.2.2 13 = some (.iconst 0, 1) := by rw [It_X8_keep]; rfl
theorem I_X8_keep_14 : zin zm_X8_keep.2.2.2.2.2 14 = some (.bipush 27, 2) := by rw [It_X8_keep]; rfl
theorem I_X8_keep_16 : zin zm_X8_keep.2.2.2.2.2 16 = some (.iload_n 1, 1) := by rw [It_X8_keep]; rfl
theorem I_X8_keep_17 : zin zm_X8_keep.2.2.2.2.2 17 = some (.iconst 1, 1) := by rw [It_X8_keep]; rfl
theorem I_X8_keep_18 : zin zm_X8_keep.2.2.2.2.2 18 = some (.iadd, 1) := by rw [It_X8_keep]; rfl
theorem I_X8_keep_19 : zin zm_X8_keep.2.2.2.2.2 19 = some (.imul, 1) := by rw [It_X8_keep]; rfl
theorem I_X8_keep_20 : zin zm_X8_keep.2.2.2.2.2 20 = some (.invokevirtual 188, 3) := by rw [It_X8_keep]; rfl
theorem I_X8_keep_23 : zin zm_X8_keep.2.2.2.2.2 23 = some (.aload_n 0, 1) := by rw [It_X8_keep]; rfl
theorem I_X8_keep_24 : zin zm_X8_keep.2.2.2.2.2 24 = some (.getfield 41, 3) := by rw [It_X8_keep]; rfl
theorem I_X8_keep_27 : zin zm_X8_keep.2.2.2.2.2 27 = some (.iload_n 1, 1) := by rw [It_X8_keep]; rfl
theorem I_X8_keep_28 : zin zm_X8_keep.2.2.2.2.2 28 = some (.baload, 1) := by rw [It_X8_keep]; rfl
theorem I_X8_keep_29 : zin zm_X8_keep.2.2.2.2.2 29 = some (.ifCond .eq 7, 3) := by rw [It_X8_keep]; rfl
theorem I_X8_keep_32 : zin zm_X8_keep.2.2.2.2.2 32 = some (.iconst 1, 1) := by rw [It_X8_keep]; rfl
theorem I_X8_keep_33 : zin zm_X8_keep.2.2.2.2.2 33 = some (.goto 4, 3) := by rw [It_X8_keep]; rfl
theorem I_X8_keep_36 : zin zm_X8_keep.2.2.2.2.2 36 = some (.iconst 0, 1) := by rw [It_X8_keep]; rfl
theorem I_X8_keep_37 : zin zm_X8_keep.2.2.2.2.2 37 = some (.istore_n 2, 1) := by rw [It_X8_keep]; rfl
theorem I_X8_keep_38 : zin zm_X8_keep.2.2.2.2.2 38 = some (.aload_n 0, 1) := by rw [It_X8_keep]; rfl
theorem I_X8_keep_39 : zin zm_X8_keep.2.2.2.2.2 39 = some (.getfield 41, 3) := by rw [It_X8_keep]; rfl
theorem I_X8_keep_42 : zin zm_X8_keep.2.2.2.2.2 42 = some (.iload_n 1, 1) := by rw [It_X8_keep]; rfl
theorem I_X8_keep_43 : zin zm_X8_keep.2.2.2.2.2 43 = some (.iconst 1, 1) := by rw [It_X8_keep]; rfl
theorem I_X8_keep_44 : zin zm_X8_keep.2.2.2.2.2 44 = some (.bastore, 1) := by rw [It_X8_keep]; rfl
theorem I_X8_keep_45 : zin zm_X8_keep.2.2.2.2.2 45 = some (.iload_n 2, 1) := by rw [It_X8_keep]; rfl
theorem I_X8_keep_46 : zin zm_X8_keep.2.2.2.2.2 46 = some (.ireturn, 1) := by rw [It_X8_keep]; rfl
theorem G_7_44 : zlk zfls 7 44 = some (7, 5, 304) := rfl
theorem G_7_96 : zlk zfls 7 96 = some (0, 5, 137) := rfl
theorem K_8_188 : zlk zmls 8 188 = some (0, 147, 2, 1080) := rfl
theorem Zm_147 : zms[147]? = some zm_X8_copies := rfl
theorem cl_X7_back : zm_X7_back.2.2.2.2.1 = 7 := by
  unfold zm_X7_back
  rfl
theorem cn_X7_back : zm_X7_back.2.2.2.2.1 ≠ 12 := by
  rw [cl_X7_back]
  decide
theorem cn2_X7_back : zm_X7_back.2.2.2.2.1 ≠ 2 := by
  rw [cl_X7_back]
  decide
theorem cl_X7_keep : zm_X7_keep.2.2.2.2.1 = 7 := by
  unfold zm_X7_keep
  rfl
theorem cn_X7_keep : zm_X7_keep.2.2.2.2.1 ≠ 12 := by
  rw [cl_X7_keep]
  decide
theorem cn2_X7_keep : zm_X7_keep.2.2.2.2.1 ≠ 2 := by
  rw [cl_X7_keep]
  decide
theorem cl_X8_back : zm_X8_back.2.2.2.2.1 = 8 := by
  unfold zm_X8_back
  rfl
theorem cn_X8_back : zm_X8_back.2.2.2.2.1 ≠ 12 := by
  rw [cl_X8_back]
  decide
theorem cn2_X8_back : zm_X8_back.2.2.2.2.1 ≠ 2 := by
  rw [cl_X8_back]
  decide
theorem cl_X8_copies : zm_X8_copies.2.2.2.2.1 = 8 := by
  unfold zm_X8_copies
  rfl
theorem cn_X8_copies : zm_X8_copies.2.2.2.2.1 ≠ 12 := by
  rw [cl_X8_copies]
  decide
theorem cn2_X8_copies : zm_X8_copies.2.2.2.2.1 ≠ 2 := by
  rw [cl_X8_copies]
  decide
theorem cl_X8_keep : zm_X8_keep.2.2.2.2.1 = 8 := by
  unfold zm_X8_keep
  rfl
theorem cn_X8_keep : zm_X8_keep.2.2.2.2.1 ≠ 12 := by
  rw [cl_X8_keep]
  decide
theorem cn2_X8_keep : zm_X8_keep.2.2.2.2.1 ≠ 2 := by
  rw [cl_X8_keep]
  decide
theorem t_become {d : Nat} {m : zM} {r : Option Value} {h' : zHp} {k o c a : Nat} (hk : zlk6 k) (ho : zlk6 o) (hne : k ≠ o) (h1 : m o 2 = Int32.ofNat c) (h2 : c ≤ 5) (a3 : m o 3 = Int32.ofNat a) (a1 : a ≤ 8) (H : zE none d zm_X0_become 0 [.ref k, .ref o, .null] [] m r h') : ∃ m1, r = none ∧ h' = zhp m1 ∧ m1 k 2 = m o 2 ∧ m1 k 3 = m o 3 ∧ m1 k 4 = m o 4 ∧ m1 k 5 = m o 5 ∧ (∀ i, i < c → ∀ b, b < 4 → m1 (k + 3 + i) b = m (o + 3 + i) b) ∧ (∀ i, i < a → m1 (k + 2) i = m (o + 2) i) ∧ ∀ a b, ¬ (k ≤ a ∧ a ≤ k + 7) → m1 a b = m a b := by
  have hko := lk_dj hk ho hne
  replace H := i_aln (q := 1) H I_X0_become_0 rfl rfl
  replace H := i_aln (q := 2) H I_X0_become_1 rfl rfl
  replace H := i_gfi (q := 5) H I_X0_become_2 G_0_26 cn_X0_become (lk_0 ho) rfl rfl
  replace H := i_pf (q := 8) H I_X0_become_5 G_0_26 cn_X0_become (lk_0 hk) rfl rfl
  replace H := i_icst (x := 0) (q := 9) H I_X0_become_8 (by decide) rfl
  replace H := i_isn (q := 10) H I_X0_become_9 rfl rfl
  obtain ⟨m2, H, n3, n4⟩ := bc_people hk ho hko h2 c 0 d r h' _ (by omega) (by rw [zup_s]; exact h1) H
  replace H := i_aln (q := 40) H I_X0_become_39 rfl rfl
  replace H := i_aln (q := 41) H I_X0_become_40 rfl rfl
  replace H := i_gfi (q := 44) H I_X0_become_41 G_0_29 cn_X0_become (lk_0 ho) rfl rfl
  replace H := i_pf (q := 47) H I_X0_become_44 G_0_29 cn_X0_become (lk_0 hk) rfl rfl
  replace H := i_icst (x := 0) (q := 48) H I_X0_become_47 (by decide) rfl
  replace H := i_isn (q := 49) H I_X0_become_48 rfl rfl
  obtain ⟨m3, H, p3, p4⟩ := bc_acts hk ho hko a1 a 0 d r h' _ (by omega) (by rw [zup_s, n4 _ _ (by omega), zup_n (by omega)]; exact a3) H
  replace H := i_aln (q := 76) H I_X0_become_75 rfl rfl
  replace H := i_aln (q := 77) H I_X0_become_76 rfl rfl
  replace H := i_gfi (q := 80) H I_X0_become_77 G_0_21 cn_X0_become (lk_0 ho) rfl rfl
  replace H := i_pf (q := 83) H I_X0_become_80 G_0_21 cn_X0_become (lk_0 hk) rfl rfl
  replace H := i_aln (q := 84) H I_X0_become_83 rfl rfl
  replace H := i_aln (q := 85) H I_X0_become_84 rfl rfl
  replace H := i_gfi (q := 88) H I_X0_become_85 G_0_32 cn_X0_become (lk_0 ho) rfl rfl
  replace H := i_pf (q := 91) H I_X0_become_88 G_0_32 cn_X0_become (lk_0 hk) rfl rfl
  obtain ⟨hr, hh⟩ := i_rt H I_X0_become_91
  refine ⟨_, hr, hh, ?_, ?_, ?_, ?_, fun i hi b hb => ?_, fun i hi => ?_, fun x b hab => ?_⟩
  · rw [zup_n (by omega), zup_n (by omega), p4 _ _ (by omega), zup_n (by omega), n4 _ _ (by omega), zup_s]
  · rw [zup_n (by omega), zup_n (by omega), p4 _ _ (by omega), zup_s, n4 _ _ (by omega), zup_n (by omega)]
  · rw [zup_n (by omega), zup_s, p4 _ _ (by omega), zup_n (by omega), n4 _ _ (by omega), zup_n (by omega)]
  · rw [zup_s, zup_n (by omega), p4 _ _ (by omega), zup_n (by omega), n4 _ _ (by omega), zup_n (by omega)]
  · rw [zup_n (by omega), zup_n (by omega), p4 _ _ (by omega), zup_n (by omega), n3 i (by omega) hi b hb, zup_n (by omega)]
  · rw [zup_n (by omega), zup_n (by omega), p3 i (by omega) hi, zup_n (by omega), n4 _ _ (by omega), zup_n (by omega)]
  · rw [zup_n (by omega), zup_n (by omega), p4 _ _ (by omega), zup_n (by omega), n4 _ _ (by omega), zup_n (by omega)]
theorem cp_loop {f t : Nat} (hft : f + 27 ≤ t ∨ t + 27 ≤ f) (hf : f + 27 ≤ 135) (ht : t + 27 ≤ 135) : ∀ (j i d : Nat) (r : Option Value) (h' : zHp) (m : zM), i + j = 27 → zE none d zm_X8_copies 2 [.ref 71, .int (Int32.ofNat f), .int (Int32.ofNat t), .int (Int32.ofNat i)] [] m r h' → ∃ m1, r = none ∧ h' = zhp m1 ∧ (∀ k, i ≤ k → k < 27 → m1 72 (t + k) = m 72 (f + k)) ∧ ∀ a b, ¬ (a = 72 ∧ t + i ≤ b ∧ b < t + 27) → m1 a b = m a b := by
  intro j
  induction j with
  | zero =>
    intro i d r h' m hj H
    replace H := i_iln (q := 3) H I_X8_copies_2 rfl rfl
    replace H := i_bip (x := 27) (q := 5) H I_X8_copies_3 (by decide) rfl
    have W := i_ic_ge (t := 30) (q := 8) H I_X8_copies_5 (by decide) rfl
    clear H
    rcases W with ⟨c_5, H⟩ | ⟨c_5, H⟩
    · skip
      obtain ⟨hr, hh⟩ := i_rt H I_X8_copies_30
      exact ⟨m, hr, hh, fun k h1 h2 => by omega, fun a b _ => rfl⟩
    · skip
      replace H := i_aln (q := 9) H I_X8_copies_8 rfl rfl
      replace H := i_gfr (q := 12) H I_X8_copies_9 G_8_7 cn_X8_copies LY_71 rfl rfl
      replace H := i_iln (q := 13) H I_X8_copies_12 rfl rfl
      replace H := i_iln (q := 14) H I_X8_copies_13 rfl rfl
      replace H := i_iadd (q := 15) H I_X8_copies_14 rfl
      replace H := i_aln (q := 16) H I_X8_copies_15 rfl rfl
      replace H := i_gfr (q := 19) H I_X8_copies_16 G_8_7 cn_X8_copies LY_71 rfl rfl
      replace H := i_iln (q := 20) H I_X8_copies_19 rfl rfl
      replace H := i_iln (q := 21) H I_X8_copies_20 rfl rfl
      replace H := i_iadd (q := 22) H I_X8_copies_21 rfl
      have W := i_ia (q := 23) H I_X8_copies_22 LY_72 rfl
      clear H
      obtain ⟨i_22, bi_22, ei_22, H⟩ := W
      have W := i_iast (q := 24) H I_X8_copies_23 LY_72 rfl
      clear H
      obtain ⟨i_23, bi_23, ei_23, H⟩ := W
      replace H := i_inc (q := 27) H I_X8_copies_24 rfl rfl rfl
      replace H := i_goto (q := 2) H I_X8_copies_27 (by decide)
      exfalso
      exact absurd ((zofn_lt (j := 27) (by omega) (by decide)).mp c_5) (by omega)
  | succ j ih =>
    intro i d r h' m hj H
    replace H := i_iln (q := 3) H I_X8_copies_2 rfl rfl
    replace H := i_bip (x := 27) (q := 5) H I_X8_copies_3 (by decide) rfl
    have W := i_ic_ge (t := 30) (q := 8) H I_X8_copies_5 (by decide) rfl
    clear H
    rcases W with ⟨c_5, H⟩ | ⟨c_5, H⟩
    · skip
      obtain ⟨hr, hh⟩ := i_rt H I_X8_copies_30
      exfalso
      exact c_5 ((zofn_lt (j := 27) (by omega) (by decide)).mpr (by omega))
    · skip
      replace H := i_aln (q := 9) H I_X8_copies_8 rfl rfl
      replace H := i_gfr (q := 12) H I_X8_copies_9 G_8_7 cn_X8_copies LY_71 rfl rfl
      replace H := i_iln (q := 13) H I_X8_copies_12 rfl rfl
      replace H := i_iln (q := 14) H I_X8_copies_13 rfl rfl
      replace H := i_iadd (q := 15) H I_X8_copies_14 rfl
      replace H := i_aln (q := 16) H I_X8_copies_15 rfl rfl
      replace H := i_gfr (q := 19) H I_X8_copies_16 G_8_7 cn_X8_copies LY_71 rfl rfl
      replace H := i_iln (q := 20) H I_X8_copies_19 rfl rfl
      replace H := i_iln (q := 21) H I_X8_copies_20 rfl rfl
      replace H := i_iadd (q := 22) H I_X8_copies_21 rfl
      have W := i_ia (q := 23) H I_X8_copies_22 LY_72 rfl
      clear H
      obtain ⟨i_22, bi_22, ei_22, H⟩ := W
      have W := i_iast (q := 24) H I_X8_copies_23 LY_72 rfl
      clear H
      obtain ⟨i_23, bi_23, ei_23, H⟩ := W
      replace H := i_inc (q := 27) H I_X8_copies_24 rfl rfl rfl
      replace H := i_goto (q := 2) H I_X8_copies_27 (by decide)
      rw [← Int32.ofNat_add] at ei_22 ei_23
      have e : f + i = i_22 := zofn ei_22 (by omega) (by omega)
      subst e
      have e : t + i = i_23 := zofn ei_23 (by omega) (by omega)
      subst e
      replace H : zE none d zm_X8_copies 2 [.ref 71, .int (Int32.ofNat f), .int (Int32.ofNat t), .int (Int32.ofNat (i + 1))] [] (zup m 72 (t + i) (m 72 (f + i))) r h' := by
        rw [zofn_s] at H
        exact H
      obtain ⟨m1, g1, g2, g3, g4⟩ := ih (i + 1) d r h' _ (by omega) H
      refine ⟨m1, g1, g2, fun k h1 h2 => ?_, fun a b hab => ?_⟩
      · by_cases hi' : k = i
        · subst hi'
          rw [g4 _ _ (by omega), zup_s]
        · rw [g3 k (by omega) h2, zup_n (by omega)]
      · rw [g4 a b (by omega), zup_n (by omega)]
theorem t_X8_copies {d : Nat} {m : zM} {r : Option Value} {h' : zHp} {x y : Int32} {f t : Nat} (hx : x = Int32.ofNat f) (hy : y = Int32.ofNat t) (hft : f + 27 ≤ t ∨ t + 27 ≤ f) (hf : f + 27 ≤ 135) (ht : t + 27 ≤ 135) (H : zE none d zm_X8_copies 0 [.ref 71, .int x, .int y, .null] [] m r h') : ∃ m1, r = none ∧ h' = zhp m1 ∧ (∀ k, k < 27 → m1 72 (t + k) = m 72 (f + k)) ∧ ∀ a b, ¬ (a = 72 ∧ t ≤ b ∧ b < t + 27) → m1 a b = m a b := by
  subst hx
  subst hy
  replace H := i_icst (x := 0) (q := 1) H I_X8_copies_0 (by decide) rfl
  replace H := i_isn (q := 2) H I_X8_copies_1 rfl rfl
  obtain ⟨m1, g1, g2, g3, g4⟩ := cp_loop hft hf ht 27 0 d r h' m rfl H
  exact ⟨m1, g1, g2, fun k hk => g3 k (by omega) hk, fun a b hab => g4 a b (by omega)⟩
theorem z_nar1 {t : Nat ⊕ Nat} : vp_nar (if t = Sum.inl 1 then .byte else .boolean) 1 = 1 := by
  split <;> decide
/-- the number of an image -/
abbrev zKo (x : Int32) : Prop := ¬ x < 0 ∧ x < 2
theorem zKo_n {x : Int32} (h : zKo x) : ∃ k, k < 2 ∧ x = Int32.ofNat k := zlt_n (y := 2) (n := 2) rfl (by omega) h
theorem zin_01 {x : Int32} {a b : Int64} (ha : a.toInt = 0) (hb : b.toInt = 1) : zin64 x.toInt64 a b = if zKo x then 1 else 0 := by
  have e : b.toInt = (1 : Int32).toInt := hb
  rw [zin_bt (lo := 0) (hi := 1) ha e]
  have e1 : (1 : Int32) < x ↔ ¬ x < 2 := by
    rw [Int32.lt_iff_toInt_lt, Int32.lt_iff_toInt_lt]
    have e2 : (1 : Int32).toInt = 1 := rfl
    have e3 : (2 : Int32).toInt = 2 := rfl
    omega
  by_cases h1 : x < 0
  · rw [if_neg (fun w => w.1 h1), if_neg (fun w => w.1 h1)]
  · by_cases h2 : x < 2
    · rw [if_pos ⟨h1, fun w => e1.mp w h2⟩, if_pos ⟨h1, h2⟩]
    · rw [if_neg (fun w => w.2 (e1.mpr h2)), if_neg (fun w => h2 w.2)]
/-- lock k has become lock o: c people, a acts -/
def zbc (m m1 : zM) (k o c a : Nat) : Prop := m1 k 2 = m o 2 ∧ m1 k 3 = m o 3 ∧ m1 k 4 = m o 4 ∧ m1 k 5 = m o 5 ∧ (∀ i, i < c → ∀ b, b < 4 → m1 (k + 3 + i) b = m (o + 3 + i) b) ∧ (∀ i, i < a → m1 (k + 2) i = m (o + 2) i)
theorem t_X7_keep {d : Nat} {m : zM} {r : Option Value} {h' : zHp} {x : Int32} {c a : Nat} (hc : m 11 2 = Int32.ofNat c) (hc5 : c ≤ 5) (ha : m 11 3 = Int32.ofNat a) (ha8 : a ≤ 8) (H : zE none d zm_X7_keep 0 [.ref 0, .int x, .null] [] m r h') : ∃ m1 v, r = some (.int v) ∧ h' = zhp m1 ∧ ((¬ zKo x ∧ v = -1 ∧ m1 = m) ∨ (zKo x ∧ ∃ k, k < 2 ∧ x = Int32.ofNat k ∧ v = (if m 45 k = 0 then 0 else 1) ∧ zbc m m1 (47 + 8 * k) 11 c a ∧ m1 45 k = 1 ∧ ∀ a b, ¬ (47 + 8 * k ≤ a ∧ a ≤ 47 + 8 * k + 7) → ¬ (a = 45 ∧ b = k) → m1 a b = m a b)) := by
  replace H := i_iln (q := 1) H I_X7_keep_0 rfl rfl
  have W := i_if_lt (t := 9) (q := 4) H I_X7_keep_1 (by decide) rfl
  clear H
  rcases W with ⟨c_1, H⟩ | ⟨c_1, H⟩
  · skip
    replace H := i_icst (x := (-1)) (q := 10) H I_X7_keep_9 (by decide) rfl
    obtain ⟨hr, hh⟩ := i_ir H I_X7_keep_10
    exact ⟨_, _, hr, hh, Or.inl ⟨fun w => w.1 c_1, rfl, rfl⟩⟩
  · skip
    replace H := i_iln (q := 5) H I_X7_keep_4 rfl rfl
    replace H := i_icst (x := 2) (q := 6) H I_X7_keep_5 (by decide) rfl
    have W := i_ic_lt (t := 11) (q := 9) H I_X7_keep_6 (by decide) rfl
    clear H
    rcases W with ⟨c_6, H⟩ | ⟨c_6, H⟩
    · skip
      replace H := i_aln (q := 12) H I_X7_keep_11 rfl rfl
      replace H := i_gfr (q := 15) H I_X7_keep_12 G_7_48 cn_X7_keep LY_0 rfl rfl
      replace H := i_iln (q := 16) H I_X7_keep_15 rfl rfl
      have W := i_ba (q := 17) H I_X7_keep_16 LY_45 rfl
      clear H
      obtain ⟨i_16, bi_16, ei_16, H⟩ := W
      have W := i_if_eq (t := 24) (q := 20) H I_X7_keep_17 (by decide) rfl
      clear H
      rcases W with ⟨c_17, H⟩ | ⟨c_17, H⟩
      · skip
        replace H := i_icst (x := 0) (q := 25) H I_X7_keep_24 (by decide) rfl
        replace H := i_isn (q := 26) H I_X7_keep_25 rfl rfl
        replace H := i_aln (q := 27) H I_X7_keep_26 rfl rfl
        replace H := i_gfr (q := 30) H I_X7_keep_27 G_7_44 cn_X7_keep LY_0 rfl rfl
        replace H := i_iln (q := 31) H I_X7_keep_30 rfl rfl
        have W := i_img (q := 32) H I_X7_keep_31 rfl
        clear H
        obtain ⟨i_31, bi_31, ei_31, H⟩ := W
        replace H := i_aln (q := 33) H I_X7_keep_32 rfl rfl
        replace H := i_gfr (q := 36) H I_X7_keep_33 G_7_19 cn_X7_keep LY_0 rfl rfl
        have W := i_cv1 1 (q := 39) H I_X7_keep_36 K_7_77 Zm_2 rfl rfl
        clear H
        obtain ⟨r1, h1, Hc, K1, K2⟩ := W
        obtain ⟨M_36, e1, e2, F_36⟩ := t_become (lk_im bi_31) lkk_11 (by omega) hc hc5 ha ha8 Hc
        have H := K2 _ e1 e2
        clear e1 e2 Hc K1 K2
        replace H := i_aln (q := 40) H I_X7_keep_39 rfl rfl
        replace H := i_gfr (q := 43) H I_X7_keep_40 G_7_48 cn_X7_keep LY_0 rfl rfl
        replace H := i_iln (q := 44) H I_X7_keep_43 rfl rfl
        replace H := i_icst (x := 1) (q := 45) H I_X7_keep_44 (by decide) rfl
        have W := i_bast (q := 46) H I_X7_keep_45 LY_45 rfl
        clear H
        obtain ⟨i_45, bi_45, ei_45, H⟩ := W
        replace H := i_iln (q := 47) H I_X7_keep_46 rfl rfl
        obtain ⟨hr, hh⟩ := i_ir H I_X7_keep_47
        obtain ⟨g2, g3, g4, g5, g6, g7, g8⟩ := F_36
        have i1 : i_31 = i_16 := zofn (ei_31.symm.trans ei_16) (by omega) (by omega)
        subst i1
        have i2 : i_45 = i_31 := zofn (ei_45.symm.trans ei_31) (by omega) (by omega)
        subst i2
        rw [z_nar1] at hh
        refine ⟨_, _, hr, hh, Or.inr ⟨⟨c_1, c_6⟩, i_45, bi_45, ei_45, by rw [if_pos c_17], ⟨?_, ?_, ?_, ?_, fun i hi b hb => ?_, fun i hi => ?_⟩, by rw [zup_s], fun a b h1 h2 => ?_⟩⟩
        · rw [zup_n (by omega)]; exact g2
        · rw [zup_n (by omega)]; exact g3
        · rw [zup_n (by omega)]; exact g4
        · rw [zup_n (by omega)]; exact g5
        · rw [zup_n (by omega)]; exact g6 i hi b hb
        · rw [zup_n (by omega)]; exact g7 i hi
        · rw [zup_n (by omega)]; exact g8 a b h1
      · skip
        replace H := i_icst (x := 1) (q := 21) H I_X7_keep_20 (by decide) rfl
        replace H := i_goto (q := 25) H I_X7_keep_21 (by decide)
        replace H := i_isn (q := 26) H I_X7_keep_25 rfl rfl
        replace H := i_aln (q := 27) H I_X7_keep_26 rfl rfl
        replace H := i_gfr (q := 30) H I_X7_keep_27 G_7_44 cn_X7_keep LY_0 rfl rfl
        replace H := i_iln (q := 31) H I_X7_keep_30 rfl rfl
        have W := i_img (q := 32) H I_X7_keep_31 rfl
        clear H
        obtain ⟨i_31, bi_31, ei_31, H⟩ := W
        replace H := i_aln (q := 33) H I_X7_keep_32 rfl rfl
        replace H := i_gfr (q := 36) H I_X7_keep_33 G_7_19 cn_X7_keep LY_0 rfl rfl
        have W := i_cv1 1 (q := 39) H I_X7_keep_36 K_7_77 Zm_2 rfl rfl
        clear H
        obtain ⟨r1, h1, Hc, K1, K2⟩ := W
        obtain ⟨M_36, e1, e2, F_36⟩ := t_become (lk_im bi_31) lkk_11 (by omega) hc hc5 ha ha8 Hc
        have H := K2 _ e1 e2
        clear e1 e2 Hc K1 K2
        replace H := i_aln (q := 40) H I_X7_keep_39 rfl rfl
        replace H := i_gfr (q := 43) H I_X7_keep_40 G_7_48 cn_X7_keep LY_0 rfl rfl
        replace H := i_iln (q := 44) H I_X7_keep_43 rfl rfl
        replace H := i_icst (x := 1) (q := 45) H I_X7_keep_44 (by decide) rfl
        have W := i_bast (q := 46) H I_X7_keep_45 LY_45 rfl
        clear H
        obtain ⟨i_45, bi_45, ei_45, H⟩ := W
        replace H := i_iln (q := 47) H I_X7_keep_46 rfl rfl
        obtain ⟨hr, hh⟩ := i_ir H I_X7_keep_47
        obtain ⟨g2, g3, g4, g5, g6, g7, g8⟩ := F_36
        have i1 : i_31 = i_16 := zofn (ei_31.symm.trans ei_16) (by omega) (by omega)
        subst i1
        have i2 : i_45 = i_31 := zofn (ei_45.symm.trans ei_31) (by omega) (by omega)
        subst i2
        rw [z_nar1] at hh
        refine ⟨_, _, hr, hh, Or.inr ⟨⟨c_1, c_6⟩, i_45, bi_45, ei_45, by rw [if_neg c_17], ⟨?_, ?_, ?_, ?_, fun i hi b hb => ?_, fun i hi => ?_⟩, by rw [zup_s], fun a b h1 h2 => ?_⟩⟩
        · rw [zup_n (by omega)]; exact g2
        · rw [zup_n (by omega)]; exact g3
        · rw [zup_n (by omega)]; exact g4
        · rw [zup_n (by omega)]; exact g5
        · rw [zup_n (by omega)]; exact g6 i hi b hb
        · rw [zup_n (by omega)]; exact g7 i hi
        · rw [zup_n (by omega)]; exact g8 a b h1
    · skip
      replace H := i_icst (x := (-1)) (q := 10) H I_X7_keep_9 (by decide) rfl
      obtain ⟨hr, hh⟩ := i_ir H I_X7_keep_10
      exact ⟨_, _, hr, hh, Or.inl ⟨fun w => c_6 w.2, rfl, rfl⟩⟩
theorem t_X8_keep {d : Nat} {m : zM} {r : Option Value} {h' : zHp} {x : Int32}  (H : zE none d zm_X8_keep 0 [.ref 71, .int x, .null] [] m r h') : ∃ m1 v, r = some (.int v) ∧ h' = zhp m1 ∧ ((¬ zKo x ∧ v = -1 ∧ m1 = m) ∨ (zKo x ∧ ∃ k, k < 2 ∧ x = Int32.ofNat k ∧ v = (if m 82 k = 0 then 0 else 1) ∧ (∀ j, j < 27 → m1 72 (27 * (k + 1) + j) = m 72 j) ∧ m1 82 k = 1 ∧ ∀ a b, ¬ (a = 72 ∧ 27 * (k + 1) ≤ b ∧ b < 27 * (k + 1) + 27) → ¬ (a = 82 ∧ b = k) → m1 a b = m a b)) := by
  replace H := i_iln (q := 1) H I_X8_keep_0 rfl rfl
  replace H := i_i2l (q := 2) H I_X8_keep_1 rfl
  replace H := i_lcst (x := 0) (q := 3) H I_X8_keep_2 (by decide) rfl
  replace H := i_lcst (x := 1) (q := 4) H I_X8_keep_3 (by decide) rfl
  replace H := i_in (q := 7) H I_X8_keep_4 K_8_55 rfl
  have W := i_if_ne (t := 12) (q := 10) H I_X8_keep_7 (by decide) rfl
  clear H
  rcases W with ⟨c_7, H⟩ | ⟨c_7, H⟩
  · skip
    replace H := i_aln (q := 13) H I_X8_keep_12 rfl rfl
    replace H := i_icst (x := 0) (q := 14) H I_X8_keep_13 (by decide) rfl
    replace H := i_bip (x := 27) (q := 16) H I_X8_keep_14 (by decide) rfl
    replace H := i_iln (q := 17) H I_X8_keep_16 rfl rfl
    replace H := i_icst (x := 1) (q := 18) H I_X8_keep_17 (by decide) rfl
    replace H := i_iadd (q := 19) H I_X8_keep_18 rfl
    replace H := i_imul (q := 20) H I_X8_keep_19 rfl
    have W := i_cv2 1 (q := 23) H I_X8_keep_20 K_8_188 Zm_147 rfl rfl
    clear H
    obtain ⟨r1, h1, Hc, K1, K2⟩ := W
    obtain ⟨k, hk2, hxk⟩ : ∃ k, k < 2 ∧ x = Int32.ofNat k := by
      rw [zin_01 rfl rfl] at c_7
      exact zKo_n (zif1 c_7)
    have hto : (27 : Int32) * (x + 1) = Int32.ofNat (27 * (k + 1)) := by
      rcases (by omega : k = 0 ∨ k = 1) with rfl | rfl <;> rw [hxk] <;> rfl
    obtain ⟨M_20, e1, e2, F_20⟩ := t_X8_copies (f := 0) (t := 27 * (k + 1)) rfl hto (by omega) (by omega) (by omega) Hc
    have H := K2 _ e1 e2
    clear e1 e2 Hc K1 K2
    replace H := i_aln (q := 24) H I_X8_keep_23 rfl rfl
    replace H := i_gfr (q := 27) H I_X8_keep_24 G_8_41 cn_X8_keep LY_71 rfl rfl
    replace H := i_iln (q := 28) H I_X8_keep_27 rfl rfl
    have W := i_ba (q := 29) H I_X8_keep_28 LY_82 rfl
    clear H
    obtain ⟨i_28, bi_28, ei_28, H⟩ := W
    have W := i_if_eq (t := 36) (q := 32) H I_X8_keep_29 (by decide) rfl
    clear H
    rcases W with ⟨c_29, H⟩ | ⟨c_29, H⟩
    · skip
      replace H := i_icst (x := 0) (q := 37) H I_X8_keep_36 (by decide) rfl
      replace H := i_isn (q := 38) H I_X8_keep_37 rfl rfl
      replace H := i_aln (q := 39) H I_X8_keep_38 rfl rfl
      replace H := i_gfr (q := 42) H I_X8_keep_39 G_8_41 cn_X8_keep LY_71 rfl rfl
      replace H := i_iln (q := 43) H I_X8_keep_42 rfl rfl
      replace H := i_icst (x := 1) (q := 44) H I_X8_keep_43 (by decide) rfl
      have W := i_bast (q := 45) H I_X8_keep_44 LY_82 rfl
      clear H
      obtain ⟨i_44, bi_44, ei_44, H⟩ := W
      replace H := i_iln (q := 46) H I_X8_keep_45 rfl rfl
      obtain ⟨hr, hh⟩ := i_ir H I_X8_keep_46
      rw [zin_01 rfl rfl] at c_7
      have hok := zif1 c_7
      obtain ⟨g3, g4⟩ := F_20
      have i2 : i_28 = k := zofn (ei_28.symm.trans hxk) (by omega) (by omega)
      subst i2
      have i3 : i_44 = i_28 := zofn (ei_44.symm.trans hxk) (by omega) (by omega)
      subst i3
      rw [z_nar1] at hh
      rw [g4 82 _ (by omega)] at c_29
      refine ⟨_, _, hr, hh, Or.inr ⟨hok, _, hk2, hxk, by rw [if_pos c_29], fun j hj => ?_, by rw [zup_s], fun a b h1 h2 => ?_⟩⟩
      · rw [zup_n (by omega)]; have := g3 j hj; rw [Nat.zero_add] at this; exact this
      · rw [zup_n (by omega)]; exact g4 a b (by omega)
    · skip
      replace H := i_icst (x := 1) (q := 33) H I_X8_keep_32 (by decide) rfl
      replace H := i_goto (q := 37) H I_X8_keep_33 (by decide)
      replace H := i_isn (q := 38) H I_X8_keep_37 rfl rfl
      replace H := i_aln (q := 39) H I_X8_keep_38 rfl rfl
      replace H := i_gfr (q := 42) H I_X8_keep_39 G_8_41 cn_X8_keep LY_71 rfl rfl
      replace H := i_iln (q := 43) H I_X8_keep_42 rfl rfl
      replace H := i_icst (x := 1) (q := 44) H I_X8_keep_43 (by decide) rfl
      have W := i_bast (q := 45) H I_X8_keep_44 LY_82 rfl
      clear H
      obtain ⟨i_44, bi_44, ei_44, H⟩ := W
      replace H := i_iln (q := 46) H I_X8_keep_45 rfl rfl
      obtain ⟨hr, hh⟩ := i_ir H I_X8_keep_46
      rw [zin_01 rfl rfl] at c_7
      have hok := zif1 c_7
      obtain ⟨g3, g4⟩ := F_20
      have i2 : i_28 = k := zofn (ei_28.symm.trans hxk) (by omega) (by omega)
      subst i2
      have i3 : i_44 = i_28 := zofn (ei_44.symm.trans hxk) (by omega) (by omega)
      subst i3
      rw [z_nar1] at hh
      rw [g4 82 _ (by omega)] at c_29
      refine ⟨_, _, hr, hh, Or.inr ⟨hok, _, hk2, hxk, by rw [if_neg c_29], fun j hj => ?_, by rw [zup_s], fun a b h1 h2 => ?_⟩⟩
      · rw [zup_n (by omega)]; have := g3 j hj; rw [Nat.zero_add] at this; exact this
      · rw [zup_n (by omega)]; exact g4 a b (by omega)
  · skip
    replace H := i_icst (x := (-1)) (q := 11) H I_X8_keep_10 (by decide) rfl
    obtain ⟨hr, hh⟩ := i_ir H I_X8_keep_11
    rw [zin_01 rfl rfl] at c_7
    exact ⟨_, _, hr, hh, Or.inl ⟨zif0 c_7, rfl, rfl⟩⟩
theorem t_X7_back {d : Nat} {m : zM} {r : Option Value} {h' : zHp} {x : Int32} {c : Nat} {ca : Nat → Nat} (hc5 : c ≤ 5) (hI : ∀ k, k < 2 → ¬ m 45 k = 0 → m (47 + 8 * k) 2 = Int32.ofNat c ∧ m (47 + 8 * k) 3 = Int32.ofNat (ca k) ∧ ca k ≤ 8) (H : zE none d zm_X7_back 0 [.ref 0, .int x] [] m r h') : ∃ m1 v, r = some (.int v) ∧ h' = zhp m1 ∧ ((¬ zKo x ∧ v = -1 ∧ m1 = m) ∨ (zKo x ∧ ∃ k, k < 2 ∧ x = Int32.ofNat k ∧ m 45 k = 0 ∧ v = -2 ∧ m1 = m) ∨ (zKo x ∧ ∃ k, k < 2 ∧ x = Int32.ofNat k ∧ ¬ m 45 k = 0 ∧ v = m1 11 5 ∧ zbc m m1 11 (47 + 8 * k) c (ca k) ∧ ∀ a b, ¬ (11 ≤ a ∧ a ≤ 11 + 7) → m1 a b = m a b)) := by
  replace H := i_iln (q := 1) H I_X7_back_0 rfl rfl
  have W := i_if_lt (t := 9) (q := 4) H I_X7_back_1 (by decide) rfl
  clear H
  rcases W with ⟨c_1, H⟩ | ⟨c_1, H⟩
  · skip
    replace H := i_icst (x := (-1)) (q := 10) H I_X7_back_9 (by decide) rfl
    obtain ⟨hr, hh⟩ := i_ir H I_X7_back_10
    exact ⟨_, _, hr, hh, Or.inl ⟨fun w => w.1 c_1, rfl, rfl⟩⟩
  · skip
    replace H := i_iln (q := 5) H I_X7_back_4 rfl rfl
    replace H := i_icst (x := 2) (q := 6) H I_X7_back_5 (by decide) rfl
    have W := i_ic_lt (t := 11) (q := 9) H I_X7_back_6 (by decide) rfl
    clear H
    rcases W with ⟨c_6, H⟩ | ⟨c_6, H⟩
    · skip
      replace H := i_aln (q := 12) H I_X7_back_11 rfl rfl
      replace H := i_gfr (q := 15) H I_X7_back_12 G_7_48 cn_X7_back LY_0 rfl rfl
      replace H := i_iln (q := 16) H I_X7_back_15 rfl rfl
      have W := i_ba (q := 17) H I_X7_back_16 LY_45 rfl
      clear H
      obtain ⟨i_16, bi_16, ei_16, H⟩ := W
      have W := i_if_ne (t := 23) (q := 20) H I_X7_back_17 (by decide) rfl
      clear H
      rcases W with ⟨c_17, H⟩ | ⟨c_17, H⟩
      · skip
        replace H := i_aln (q := 24) H I_X7_back_23 rfl rfl
        replace H := i_gfr (q := 27) H I_X7_back_24 G_7_19 cn_X7_back LY_0 rfl rfl
        replace H := i_aln (q := 28) H I_X7_back_27 rfl rfl
        replace H := i_gfr (q := 31) H I_X7_back_28 G_7_44 cn_X7_back LY_0 rfl rfl
        replace H := i_iln (q := 32) H I_X7_back_31 rfl rfl
        have W := i_img (q := 33) H I_X7_back_32 rfl
        clear H
        obtain ⟨i_32, bi_32, ei_32, H⟩ := W
        have W := i_cv1 1 (q := 36) H I_X7_back_33 K_7_77 Zm_2 rfl rfl
        clear H
        obtain ⟨r1, h1, Hc, K1, K2⟩ := W
        have i1 : i_32 = i_16 := zofn (ei_32.symm.trans ei_16) (by omega) (by omega)
        have hkp : ¬ m 45 i_32 = 0 := by rw [i1]; exact c_17
        obtain ⟨M_33, e1, e2, F_33⟩ := t_become (c := c) (a := ca i_32) lkk_11 (lk_im bi_32) (by omega) (hI i_32 bi_32 hkp).1 hc5 (hI i_32 bi_32 hkp).2.1 (hI i_32 bi_32 hkp).2.2 Hc
        have H := K2 _ e1 e2
        clear e1 e2 Hc K1 K2
        clear i1 hkp
        replace H := i_aln (q := 37) H I_X7_back_36 rfl rfl
        replace H := i_gfr (q := 40) H I_X7_back_37 G_7_19 cn_X7_back LY_0 rfl rfl
        replace H := i_gfi (q := 43) H I_X7_back_40 G_7_96 cn_X7_back LY_11 rfl rfl
        obtain ⟨hr, hh⟩ := i_ir H I_X7_back_43
        obtain ⟨g2, g3, g4, g5, g6, g7, g8⟩ := F_33
        have i1 : i_32 = i_16 := zofn (ei_32.symm.trans ei_16) (by omega) (by omega)
        subst i1
        exact ⟨_, _, hr, hh, Or.inr (Or.inr ⟨⟨c_1, c_6⟩, i_32, bi_16, ei_16, c_17, rfl, ⟨g2, g3, g4, g5, g6, g7⟩, g8⟩)⟩
      · skip
        replace H := i_bip (x := (-2)) (q := 22) H I_X7_back_20 (by decide) rfl
        obtain ⟨hr, hh⟩ := i_ir H I_X7_back_22
        exact ⟨_, _, hr, hh, Or.inr (Or.inl ⟨⟨c_1, c_6⟩, i_16, bi_16, ei_16, c_17, rfl, rfl⟩)⟩
    · skip
      replace H := i_icst (x := (-1)) (q := 10) H I_X7_back_9 (by decide) rfl
      obtain ⟨hr, hh⟩ := i_ir H I_X7_back_10
      exact ⟨_, _, hr, hh, Or.inl ⟨fun w => c_6 w.2, rfl, rfl⟩⟩
theorem t_X8_back {d : Nat} {m : zM} {r : Option Value} {h' : zHp} {x : Int32}  (H : zE none d zm_X8_back 0 [.ref 71, .int x] [] m r h') : ∃ m1 v, r = some (.int v) ∧ h' = zhp m1 ∧ ((¬ zKo x ∧ v = -1 ∧ m1 = m) ∨ (zKo x ∧ ∃ k, k < 2 ∧ x = Int32.ofNat k ∧ m 82 k = 0 ∧ v = -2 ∧ m1 = m) ∨ (zKo x ∧ ∃ k, k < 2 ∧ x = Int32.ofNat k ∧ ¬ m 82 k = 0 ∧ v = m1 72 17 ∧ (∀ j, j < 27 → m1 72 j = m 72 (27 * (k + 1) + j)) ∧ ∀ a b, ¬ (a = 72 ∧ b < 27) → m1 a b = m a b)) := by
  replace H := i_iln (q := 1) H I_X8_back_0 rfl rfl
  replace H := i_i2l (q := 2) H I_X8_back_1 rfl
  replace H := i_lcst (x := 0) (q := 3) H I_X8_back_2 (by decide) rfl
  replace H := i_lcst (x := 1) (q := 4) H I_X8_back_3 (by decide) rfl
  replace H := i_in (q := 7) H I_X8_back_4 K_8_55 rfl
  have W := i_if_ne (t := 12) (q := 10) H I_X8_back_7 (by decide) rfl
  clear H
  rcases W with ⟨c_7, H⟩ | ⟨c_7, H⟩
  · skip
    replace H := i_aln (q := 13) H I_X8_back_12 rfl rfl
    replace H := i_gfr (q := 16) H I_X8_back_13 G_8_41 cn_X8_back LY_71 rfl rfl
    replace H := i_iln (q := 17) H I_X8_back_16 rfl rfl
    have W := i_ba (q := 18) H I_X8_back_17 LY_82 rfl
    clear H
    obtain ⟨i_17, bi_17, ei_17, H⟩ := W
    have W := i_if_ne (t := 24) (q := 21) H I_X8_back_18 (by decide) rfl
    clear H
    rcases W with ⟨c_18, H⟩ | ⟨c_18, H⟩
    · skip
      replace H := i_aln (q := 25) H I_X8_back_24 rfl rfl
      replace H := i_bip (x := 27) (q := 27) H I_X8_back_25 (by decide) rfl
      replace H := i_iln (q := 28) H I_X8_back_27 rfl rfl
      replace H := i_icst (x := 1) (q := 29) H I_X8_back_28 (by decide) rfl
      replace H := i_iadd (q := 30) H I_X8_back_29 rfl
      replace H := i_imul (q := 31) H I_X8_back_30 rfl
      replace H := i_icst (x := 0) (q := 32) H I_X8_back_31 (by decide) rfl
      have W := i_cv2 1 (q := 35) H I_X8_back_32 K_8_188 Zm_147 rfl rfl
      clear H
      obtain ⟨r1, h1, Hc, K1, K2⟩ := W
      have hto : (27 : Int32) * (x + 1) = Int32.ofNat (27 * (i_17 + 1)) := by
        rcases (by omega : i_17 = 0 ∨ i_17 = 1) with e | e <;> rw [ei_17, e] <;> rfl
      obtain ⟨M_32, e1, e2, F_32⟩ := t_X8_copies (f := 27 * (i_17 + 1)) (t := 0) hto rfl (by omega) (by omega) (by omega) Hc
      have H := K2 _ e1 e2
      clear e1 e2 Hc K1 K2
      replace H := i_aln (q := 36) H I_X8_back_35 rfl rfl
      replace H := i_gfr (q := 39) H I_X8_back_36 G_8_7 cn_X8_back LY_71 rfl rfl
      replace H := i_bip (x := 17) (q := 41) H I_X8_back_39 (by decide) rfl
      have W := i_ia (q := 42) H I_X8_back_41 LY_72 rfl
      clear H
      obtain ⟨i_41, bi_41, ei_41, H⟩ := W
      obtain ⟨hr, hh⟩ := i_ir H I_X8_back_42
      rw [zin_01 rfl rfl] at c_7
      obtain ⟨g3, g4⟩ := F_32
      have i2 : i_41 = 17 := (zofn (i := 17) ei_41 (by decide) (by omega)).symm
      subst i2
      exact ⟨_, _, hr, hh, Or.inr (Or.inr ⟨zif1 c_7, i_17, bi_17, ei_17, c_18, rfl, fun j hj => by have := g3 j hj; rw [Nat.zero_add] at this; exact this, fun a b h => g4 a b (by omega)⟩)⟩
    · skip
      replace H := i_bip (x := (-2)) (q := 23) H I_X8_back_21 (by decide) rfl
      obtain ⟨hr, hh⟩ := i_ir H I_X8_back_23
      rw [zin_01 rfl rfl] at c_7
      exact ⟨_, _, hr, hh, Or.inr (Or.inl ⟨zif1 c_7, i_17, bi_17, ei_17, c_18, rfl, rfl⟩)⟩
  · skip
    replace H := i_icst (x := (-1)) (q := 11) H I_X8_back_10 (by decide) rfl
    obtain ⟨hr, hh⟩ := i_ir H I_X8_back_11
    rw [zin_01 rfl rfl] at c_7
    exact ⟨_, _, hr, hh, Or.inl ⟨zif0 c_7, rfl, rfl⟩⟩
