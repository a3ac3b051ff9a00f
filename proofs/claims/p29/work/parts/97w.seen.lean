/-! what is seen -/
theorem It_X6_fits : zm_X6_fits.2.2.2.2.2 = zt_X6_fits := by
  unfold zm_X6_fits
  rfl
theorem It_X7_slacks : zm_X7_slacks.2.2.2.2.2 = zt_X7_slacks := by
  unfold zm_X7_slacks
  rfl
theorem It_X8_isAsSeen : zm_X8_isAsSeen.2.2.2.2.2 = zt_X8_isAsSeen := by
  unfold zm_X8_isAsSeen
  rfl
theorem It_X8_slacks : zm_X8_slacks.2.2.2.2.2 = zt_X8_slacks := by
  unfold zm_X8_slacks
  rfl
theorem I_X6_fits_0 : zin zm_X6_fits.2.2.2.2.2 0 = some (.iconst 0, 1) := by rw [It_X6_fits]; rfl
theorem I_X6_fits_1 : zin zm_X6_fits.2.2.2.2.2 1 = some (.istore_n 2, 1) := by rw [It_X6_fits]; rfl
theorem I_X6_fits_2 : zin zm_X6_fits.2.2.2.2.2 2 = some (.iload_n 2, 1) := by rw [It_X6_fits]; rfl
theorem I_X6_fits_3 : zin zm_X6_fits.2.2.2.2.2 3 = some (.aload_n 0, 1) := by rw [It_X6_fits]; rfl
theorem I_X6_fits_4 : zin zm_X6_fits.2.2.2.2.2 4 = some (.getfield 21, 3) := by rw [It_X6_fits]; rfl
theorem I_X6_fits_7 : zin zm_X6_fits.2.2.2.2.2 7 = some (.if_icmp .ge 31, 3) := by rw [It_X6_fits]; rfl
theorem I_X6_fits_10 : zin zm_X6_fits.2.2.2.2.2 10 = some (.aload_n 1, 1) := by rw [It_X6_fits]; rfl
theorem I_X6_fits_11 : zin zm_X6_fits.2.2.2.2.2 11 = some (.getfield 25, 3) := by rw [It_X6_fits]; rfl
theorem I_X6_fits_14 : zin zm_X6_fits.2.2.2.2.2 14 = some (.aload_n 0, 1) := by rw [It_X6_fits]; rfl
theorem I_X6_fits_15 : zin zm_X6_fits.2.2.2.2.2 15 = some (.getfield 9, 3) := by rw [It_X6_fits]; rfl
theorem I_X6_fits_18 : zin zm_X6_fits.2.2.2.2.2 18 = some (.iload_n 2, 1) := by rw [It_X6_fits]; rfl
theorem I_X6_fits_19 : zin zm_X6_fits.2.2.2.2.2 19 = some (.iaload, 1) := by rw [It_X6_fits]; rfl
theorem I_X6_fits_20 : zin zm_X6_fits.2.2.2.2.2 20 = some (.iaload, 1) := by rw [It_X6_fits]; rfl
theorem I_X6_fits_21 : zin zm_X6_fits.2.2.2.2.2 21 = some (.aload_n 0, 1) := by rw [It_X6_fits]; rfl
theorem I_X6_fits_22 : zin zm_X6_fits.2.2.2.2.2 22 = some (.getfield 15, 3) := by rw [It_X6_fits]; rfl
theorem I_X6_fits_25 : zin zm_X6_fits.2.2.2.2.2 25 = some (.iload_n 2, 1) := by rw [It_X6_fits]; rfl
theorem I_X6_fits_26 : zin zm_X6_fits.2.2.2.2.2 26 = some (.iaload, 1) := by rw [It_X6_fits]; rfl
theorem I_X6_fits_27 : zin zm_X6_fits.2.2.2.2.2 27 = some (.if_icmp .eq 5, 3) := by rw [It_X6_fits]; rfl
theorem I_X6_fits_30 : zin zm_X6_fits.2.2.2.2.2 30 = some (.iconst 0, 1) := by rw [It_X6_fits]; rfl
theorem I_X6_fits_31 : zin zm_X6_fits.2.2.2.2.2 31 = some (.ireturn, 1) := by rw [It_X6_fits]; rfl
theorem I_X6_fits_32 : zin zm_X6_fits.2.2.2.2.2 32 = some (.iinc 2 1, 3) := by rw [It_X6_fits]; rfl
theorem I_X6_fits_35 : zin zm_X6_fits.2.2.2.2.2 35 = some (.goto (-33), 3) := by rw [It_X6_fits]; rfl
theorem I_X6_fits_38 : zin zm_X6_fits.2.2.2.2.2 38 = some (.iconst 1, 1) := by rw [It_X6_fits]; rfl
theorem I_X6_fits_39 : zin zm_X6_fits.2.2.2.2.2 39 = some (.ireturn, 1) := by rw [It_X6_fits]; rfl
theorem I_X7_slacks_0 : zin zm_X7_slacks.2.2.2.2.2 0 = some (.iconst 0, 1) := by rw [It_X7_slacks]; rfl
theorem I_X7_slacks_1 : zin zm_X7_slacks.2.2.2.2.2 1 = some (.istore_n 1, 1) := by rw [It_X7_slacks]; rfl
theorem I_X7_slacks_2 : zin zm_X7_slacks.2.2.2.2.2 2 = some (.iconst 0, 1) := by rw [It_X7_slacks]; rfl
theorem I_X7_slacks_3 : zin zm_X7_slacks.2.2.2.2.2 3 = some (.istore_n 2, 1) := by rw [It_X7_slacks]; rfl
theorem I_X7_slacks_4 : zin zm_X7_slacks.2.2.2.2.2 4 = some (.iload_n 2, 1) := by rw [It_X7_slacks]; rfl
theorem I_X7_slacks_5 : zin zm_X7_slacks.2.2.2.2.2 5 = some (.bipush 9, 2) := by rw [It_X7_slacks]; rfl
theorem I_X7_slacks_7 : zin zm_X7_slacks.2.2.2.2.2 7 = some (.if_icmp .gt 34, 3) := by rw [It_X7_slacks]; rfl
theorem I_X7_slacks_10 : zin zm_X7_slacks.2.2.2.2.2 10 = some (.aload_n 0, 1) := by rw [It_X7_slacks]; rfl
theorem I_X7_slacks_11 : zin zm_X7_slacks.2.2.2.2.2 11 = some (.iload_n 2, 1) := by rw [It_X7_slacks]; rfl
theorem I_X7_slacks_12 : zin zm_X7_slacks.2.2.2.2.2 12 = some (.invokevirtual 214, 3) := by rw [It_X7_slacks]; rfl
theorem I_X7_slacks_15 : zin zm_X7_slacks.2.2.2.2.2 15 = some (.aload_n 0, 1) := by rw [It_X7_slacks]; rfl
theorem I_X7_slacks_16 : zin zm_X7_slacks.2.2.2.2.2 16 = some (.getfield 40, 3) := by rw [It_X7_slacks]; rfl
theorem I_X7_slacks_19 : zin zm_X7_slacks.2.2.2.2.2 19 = some (.aload_n 0, 1) := by rw [It_X7_slacks]; rfl
theorem I_X7_slacks_20 : zin zm_X7_slacks.2.2.2.2.2 20 = some (.getfield 26, 3) := by rw [It_X7_slacks]; rfl
theorem I_X7_slacks_23 : zin zm_X7_slacks.2.2.2.2.2 23 = some (.invokevirtual 243, 3) := by rw [It_X7_slacks]; rfl
theorem I_X7_slacks_26 : zin zm_X7_slacks.2.2.2.2.2 26 = some (.ifCond .eq 9, 3) := by rw [It_X7_slacks]; rfl
theorem I_X7_slacks_29 : zin zm_X7_slacks.2.2.2.2.2 29 = some (.iload_n 1, 1) := by rw [It_X7_slacks]; rfl
theorem I_X7_slacks_30 : zin zm_X7_slacks.2.2.2.2.2 30 = some (.iconst 1, 1) := by rw [It_X7_slacks]; rfl
theorem I_X7_slacks_31 : zin zm_X7_slacks.2.2.2.2.2 31 = some (.iload_n 2, 1) := by rw [It_X7_slacks]; rfl
theorem I_X7_slacks_32 : zin zm_X7_slacks.2.2.2.2.2 32 = some (.ishl, 1) := by rw [It_X7_slacks]; rfl
theorem I_X7_slacks_33 : zin zm_X7_slacks.2.2.2.2.2 33 = some (.ior, 1) := by rw [It_X7_slacks]; rfl
theorem I_X7_slacks_34 : zin zm_X7_slacks.2.2.2.2.2 34 = some (.istore_n 1, 1) := by rw [It_X7_slacks]; rfl
theorem I_X7_slacks_35 : zin zm_X7_slacks.2.2.2.2.2 35 = some (.iinc 2 1, 3) := by rw [It_X7_slacks]; rfl
theorem I_X7_slacks_38 : zin zm_X7_slacks.2.2.2.2.2 38 = some (.goto (-34), 3) := by rw [It_X7_slacks]; rfl
theorem I_X7_slacks_41 : zin zm_X7_slacks.2.2.2.2.2 41 = some (.iload_n 1, 1) := by rw [It_X7_slacks]; rfl
theorem I_X7_slacks_42 : zin zm_X7_slacks.2.2.2.2.2 42 = some (.ireturn, 1) := by rw [It_X7_slacks]; rfl
theorem I_X8_isAsSeen_0 : zin zm_X8_isAsSeen.2.2.2.2.2 0 = some (.iconst 1, 1) := by rw [It_X8_isAsSeen]; rfl
theorem I_X8_isAsSeen_1 : zin zm_X8_isAsSeen.2.2.2.2.2 1 = some (.istore_n 1, 1) := by rw [It_X8_isAsSeen]; rfl
theorem I_X8_isAsSeen_2 : zin zm_X8_isAsSeen.2.2.2.2.2 2 = some (.iconst 0, 1) := by rw [It_X8_isAsSeen]; rfl
theorem I_X8_isAsSeen_3 : zin zm_X8_isAsSeen.2.2.2.2.2 3 = some (.istore_n 2, 1) := by rw [It_X8_isAsSeen]; rfl
theorem I_X8_isAsSeen_4 : zin zm_X8_isAsSeen.2.2.2.2.2 4 = some (.iload_n 2, 1) := by rw [It_X8_isAsSeen]; rfl
theorem I_X8_isAsSeen_5 : zin zm_X8_isAsSeen.2.2.2.2.2 5 = some (.aload_n 0, 1) := by rw [It_X8_isAsSeen]; rfl
theorem I_X8_isAsSeen_6 : zin zm_X8_isAsSeen.2.2.2.2.2 6 = some (.getfield 134, 3) := by rw [It_X8_isAsSeen]; rfl
theorem I_X8_isAsSeen_9 : zin zm_X8_isAsSeen.2.2.2.2.2 9 = some (.if_icmp .ge 45, 3) := by rw [It_X8_isAsSeen]; rfl
theorem I_X8_isAsSeen_12 : zin zm_X8_isAsSeen.2.2.2.2.2 12 = some (.iload_n 1, 1) := by rw [It_X8_isAsSeen]; rfl
theorem I_X8_isAsSeen_13 : zin zm_X8_isAsSeen.2.2.2.2.2 13 = some (.ifCond .eq 33, 3) := by rw [It_X8_isAsSeen]; rfl
theorem I_X8_isAsSeen_16 : zin zm_X8_isAsSeen.2.2.2.2.2 16 = some (.aload_n 0, 1) := by rw [It_X8_isAsSeen]; rfl
theorem I_X8_isAsSeen_17 : zin zm_X8_isAsSeen.2.2.2.2.2 17 = some (.getfield 28, 3) := by rw [It_X8_isAsSeen]; rfl
theorem I_X8_isAsSeen_20 : zin zm_X8_isAsSeen.2.2.2.2.2 20 = some (.aload_n 0, 1) := by rw [It_X8_isAsSeen]; rfl
theorem I_X8_isAsSeen_21 : zin zm_X8_isAsSeen.2.2.2.2.2 21 = some (.getfield 31, 3) := by rw [It_X8_isAsSeen]; rfl
theorem I_X8_isAsSeen_24 : zin zm_X8_isAsSeen.2.2.2.2.2 24 = some (.iconst 2, 1) := by rw [It_X8_isAsSeen]; rfl
theorem I_X8_isAsSeen_25 : zin zm_X8_isAsSeen.2.2.2.2.2 25 = some (.iload_n 2, 1) := by rw [It_X8_isAsSeen]; rfl
theorem I_X8_isAsSeen_26 : zin zm_X8_isAsSeen.2.2.2.2.2 26 = some (.imul, 1) := by rw [It_X8_isAsSeen]; rfl
theorem I_X8_isAsSeen_27 : zin zm_X8_isAsSeen.2.2.2.2.2 27 = some (.iaload, 1) := by rw [It_X8_isAsSeen]; rfl
theorem I_X8_isAsSeen_28 : zin zm_X8_isAsSeen.2.2.2.2.2 28 = some (.iaload, 1) := by rw [It_X8_isAsSeen]; rfl
theorem I_X8_isAsSeen_29 : zin zm_X8_isAsSeen.2.2.2.2.2 29 = some (.aload_n 0, 1) := by rw [It_X8_isAsSeen]; rfl
theorem I_X8_isAsSeen_30 : zin zm_X8_isAsSeen.2.2.2.2.2 30 = some (.getfield 31, 3) := by rw [It_X8_isAsSeen]; rfl
theorem I_X8_isAsSeen_33 : zin zm_X8_isAsSeen.2.2.2.2.2 33 = some (.iconst 2, 1) := by rw [It_X8_isAsSeen]; rfl
theorem I_X8_isAsSeen_34 : zin zm_X8_isAsSeen.2.2.2.2.2 34 = some (.iload_n 2, 1) := by rw [It_X8_isAsSeen]; rfl
theorem I_X8_isAsSeen_35 : zin zm_X8_isAsSeen.2.2.2.2.2 35 = some (.imul, 1) := by rw [It_X8_isAsSeen]; rfl
theorem I_X8_isAsSeen_36 : zin zm_X8_isAsSeen.2.2.2.2.2 36 = some (.iconst 1, 1) := by rw [It_X8_isAsSeen]; rfl
theorem I_X8_isAsSeen_37 : zin zm_X8_isAsSeen.2.2.2.2.2 37 = some (.iadd, 1) := by rw [It_X8_isAsSeen]; rfl
theorem I_X8_isAsSeen_38 : zin zm_X8_isAsSeen.2.2.2.2.2 38 = some (.iaload, 1) := by rw [It_X8_isAsSeen]; rfl
theorem I_X8_isAsSeen_39 : zin zm_X8_isAsSeen.2.2.2.2.2 39 = some (.if_icmp .ne 7, 3) := by rw [It_X8_isAsSeen]; rfl
theorem I_X8_isAsSeen_42 : zin zm_X8_isAsSeen.2.2.2.2.2 42 = some (.iconst 1, 1) := by rw [It_X8_isAsSeen]; rfl
theorem I_X8_isAsSeen_43 : zin zm_X8_isAsSeen.2.2.2.2.2 43 = some (.goto 4, 3) := by rw [It_X8_isAsSeen]; rfl
theorem I_X8_isAsSeen_46 : zin zm_X8_isAsSeen.2.2.2.2.2 46 = some (.iconst 0, 1) := by rw [It_X8_isAsSeen]; rfl
theorem I_X8_isAsSeen_47 : zin zm_X8_isAsSeen.2.2.2.2.2 47 = some (.istore_n 1, 1) := by rw [It_X8_isAsSeen]; rfl
theorem I_X8_isAsSeen_48 : zin zm_X8_isAsSeen.2.2.2.2.2 48 = some (.iinc 2 1, 3) := by rw [It_X8_isAsSeen]; rfl
theorem I_X8_isAsSeen_51 : zin zm_X8_isAsSeen.2.2.2.2.2 51 = some (.goto (-47), 3) := by rw [It_X8_isAsSeen]; rfl
theorem I_X8_isAsSeen_54 : zin zm_X8_isAsSeen.2.2.2.2.2 54 = some (.iload_n 1, 1) := by rw [It_X8_isAsSeen]; rfl
theorem I_X8_isAsSeen_55 : zin zm_X8_isAsSeen.2.2.2.2.2 55 = some (.ireturn, 1) := by rw [It_X8_isAsSeen]; rfl
theorem I_X8_slacks_0 : zin zm_X8_slacks.2.2.2.2.2 0 = some (.iconst 0, 1) := by rw [It_X8_slacks]; rfl
theorem I_X8_slacks_1 : zin zm_X8_slacks.2.2.2.2.2 1 = some (.istore_n 1, 1) := by rw [It_X8_slacks]; rfl
theorem I_X8_slacks_2 : zin zm_X8_slacks.2.2.2.2.2 2 = some (.iconst 0, 1) := by rw [It_X8_slacks]; rfl
theorem I_X8_slacks_3 : zin zm_X8_slacks.2.2.2.2.2 3 = some (.istore_n 2, 1) := by rw [It_X8_slacks]; rfl
theorem I_X8_slacks_4 : zin zm_X8_slacks.2.2.2.2.2 4 = some (.iload_n 2, 1) := by rw [It_X8_slacks]; rfl
theorem I_X8_slacks_5 : zin zm_X8_slacks.2.2.2.2.2 5 = some (.bipush 10, 2) := by rw [It_X8_slacks]; rfl
theorem I_X8_slacks_7 : zin zm_X8_slacks.2.2.2.2.2 7 = some (.if_icmp .ge 48, 3) := by rw [It_X8_slacks]; rfl
theorem I_X8_slacks_10 : zin zm_X8_slacks.2.2.2.2.2 10 = some (.aload_n 0, 1) := by rw [It_X8_slacks]; rfl
theorem I_X8_slacks_11 : zin zm_X8_slacks.2.2.2.2.2 11 = some (.iconst 0, 1) := by rw [It_X8_slacks]; rfl
theorem I_X8_slacks_12 : zin zm_X8_slacks.2.2.2.2.2 12 = some (.bipush 108, 2) := by rw [It_X8_slacks]; rfl
theorem I_X8_slacks_14 : zin zm_X8_slacks.2.2.2.2.2 14 = some (.invokevirtual 188, 3) := by rw [It_X8_slacks]; rfl
theorem I_X8_slacks_17 : zin zm_X8_slacks.2.2.2.2.2 17 = some (.aload_n 0, 1) := by rw [It_X8_slacks]; rfl
theorem I_X8_slacks_18 : zin zm_X8_slacks.2.2.2.2.2 18 = some (.getfield 7, 3) := by rw [It_X8_slacks]; rfl
theorem I_X8_slacks_21 : zin zm_X8_slacks.2.2.2.2.2 21 = some (.bipush 124, 2) := by rw [It_X8_slacks]; rfl
theorem I_X8_slacks_23 : zin zm_X8_slacks.2.2.2.2.2 23 = some (.iload_n 2, 1) := by rw [It_X8_slacks]; rfl
theorem I_X8_slacks_24 : zin zm_X8_slacks.2.2.2.2.2 24 = some (.iconst 1, 1) := by rw [It_X8_slacks]; rfl
theorem I_X8_slacks_25 : zin zm_X8_slacks.2.2.2.2.2 25 = some (.isub, 1) := by rw [It_X8_slacks]; rfl
theorem I_X8_slacks_26 : zin zm_X8_slacks.2.2.2.2.2 26 = some (.iastore, 1) := by rw [It_X8_slacks]; rfl
theorem I_X8_slacks_27 : zin zm_X8_slacks.2.2.2.2.2 27 = some (.aload_n 0, 1) := by rw [It_X8_slacks]; rfl
theorem I_X8_slacks_28 : zin zm_X8_slacks.2.2.2.2.2 28 = some (.iconst 0, 1) := by rw [It_X8_slacks]; rfl
theorem I_X8_slacks_29 : zin zm_X8_slacks.2.2.2.2.2 29 = some (.invokevirtual 192, 3) := by rw [It_X8_slacks]; rfl
theorem I_X8_slacks_32 : zin zm_X8_slacks.2.2.2.2.2 32 = some (.iload_n 1, 1) := by rw [It_X8_slacks]; rfl
theorem I_X8_slacks_33 : zin zm_X8_slacks.2.2.2.2.2 33 = some (.aload_n 0, 1) := by rw [It_X8_slacks]; rfl
theorem I_X8_slacks_34 : zin zm_X8_slacks.2.2.2.2.2 34 = some (.invokevirtual 232, 3) := by rw [It_X8_slacks]; rfl
theorem I_X8_slacks_37 : zin zm_X8_slacks.2.2.2.2.2 37 = some (.ifCond .eq 9, 3) := by rw [It_X8_slacks]; rfl
theorem I_X8_slacks_40 : zin zm_X8_slacks.2.2.2.2.2 40 = some (.iconst 1, 1) := by rw [It_X8_slacks]; rfl
theorem I_X8_slacks_41 : zin zm_X8_slacks.2.2.2.2.2 41 = some (.iload_n 2, 1) := by rw [It_X8_slacks]; rfl
theorem I_X8_slacks_42 : zin zm_X8_slacks.2.2.2.2.2 42 = some (.ishl, 1) := by rw [It_X8_slacks]; rfl
theorem I_X8_slacks_43 : zin zm_X8_slacks.2.2.2.2.2 43 = some (.goto 4, 3) := by rw [It_X8_slacks]; rfl
theorem I_X8_slacks_46 : zin zm_X8_slacks.2.2.2.2.2 46 = some (.iconst 0, 1) := by rw [It_X8_slacks]; rfl
theorem I_X8_slacks_47 : zin zm_X8_slacks.2.2.2.2.2 47 = some (.ior, 1) := by rw [It_X8_slacks]; rfl
theorem I_X8_slacks_48 : zin zm_X8_slacks.2.2.2.2.2 48 = some (.istore_n 1, 1) := by rw [It_X8_slacks]; rfl
theorem I_X8_slacks_49 : zin zm_X8_slacks.2.2.2.2.2 49 = some (.iinc 2 1, 3) := by rw [It_X8_slacks]; rfl
theorem I_X8_slacks_52 : zin zm_X8_slacks.2.2.2.2.2 52 = some (.goto (-48), 3) := by rw [It_X8_slacks]; rfl
theorem I_X8_slacks_55 : zin zm_X8_slacks.2.2.2.2.2 55 = some (.iload_n 1, 1) := by rw [It_X8_slacks]; rfl
theorem I_X8_slacks_56 : zin zm_X8_slacks.2.2.2.2.2 56 = some (.ireturn, 1) := by rw [It_X8_slacks]; rfl
theorem G_6_25 : zlk zfls 6 25 = some (3, 1, 210) := rfl
theorem K_7_243 : zlk zmls 7 243 = some (0, 60, 1, 745) := rfl
theorem K_8_232 : zlk zmls 8 232 = some (0, 169, 0, 1173) := rfl
theorem Zm_60 : zms[60]? = some zm_X6_fits := rfl
theorem Zm_169 : zms[169]? = some zm_X8_isAsSeen := rfl
theorem cl_X6_fits : zm_X6_fits.2.2.2.2.1 = 6 := by
  unfold zm_X6_fits
  rfl
theorem cn_X6_fits : zm_X6_fits.2.2.2.2.1 ≠ 12 := by
  rw [cl_X6_fits]
  decide
theorem cn2_X6_fits : zm_X6_fits.2.2.2.2.1 ≠ 2 := by
  rw [cl_X6_fits]
  decide
theorem cl_X7_slacks : zm_X7_slacks.2.2.2.2.1 = 7 := by
  unfold zm_X7_slacks
  rfl
theorem cn_X7_slacks : zm_X7_slacks.2.2.2.2.1 ≠ 12 := by
  rw [cl_X7_slacks]
  decide
theorem cn2_X7_slacks : zm_X7_slacks.2.2.2.2.1 ≠ 2 := by
  rw [cl_X7_slacks]
  decide
theorem cl_X8_isAsSeen : zm_X8_isAsSeen.2.2.2.2.1 = 8 := by
  unfold zm_X8_isAsSeen
  rfl
theorem cn_X8_isAsSeen : zm_X8_isAsSeen.2.2.2.2.1 ≠ 12 := by
  rw [cl_X8_isAsSeen]
  decide
theorem cn2_X8_isAsSeen : zm_X8_isAsSeen.2.2.2.2.1 ≠ 2 := by
  rw [cl_X8_isAsSeen]
  decide
theorem cl_X8_slacks : zm_X8_slacks.2.2.2.2.1 = 8 := by
  unfold zm_X8_slacks
  rfl
theorem cn_X8_slacks : zm_X8_slacks.2.2.2.2.1 ≠ 12 := by
  rw [cl_X8_slacks]
  decide
theorem cn2_X8_slacks : zm_X8_slacks.2.2.2.2.1 ≠ 2 := by
  rw [cl_X8_slacks]
  decide
/-- what is seen, alike -/
def SV (m : zM) : Prop := ∃ s, s ≤ 6 ∧ m 40 3 = Int32.ofNat s ∧ m 71 23 = Int32.ofNat s ∧ ∀ k, k < s → m 41 k = m 79 (2 * k) ∧ m 42 k = m 79 (2 * k + 1)
def RS (m : zM) : Prop := RF m ∧ SV m
def qSn (k i : Nat) : Bool := (Nat.beq k 71 && Nat.beq i 23) || (Nat.beq k 40 && Nat.beq i 3) || (Nat.beq k 41 && Nat.blt i 6) || (Nat.beq k 42 && Nat.blt i 6) || (Nat.beq k 79 && Nat.blt i 12)
theorem qSn_p : zqp qSn = true := by decide +kernel
theorem qSn_r : ∀ i, i < 6 → qSn 41 i = true ∧ qSn 42 i = true ∧ qSn 79 (2 * i) = true ∧ qSn 79 (2 * i + 1) = true := by decide
theorem SV_e {m m1 : zM} (h : SV m) (he : zqe qSn m m1) : SV m1 := by
  obtain ⟨s, s1, s2, s3, s4⟩ := h
  refine ⟨s, s1, (he 40 3 rfl rfl rfl).trans s2, (he 71 23 rfl rfl rfl).trans s3, fun k hk => ?_⟩
  obtain ⟨q1, q2, q3, q4⟩ := qSn_r k (by omega)
  rw [he 41 k rfl (by rw [Nat.blt_eq]; omega) q1, he 42 k rfl (by rw [Nat.blt_eq]; omega) q2, he 79 (2 * k) rfl (by rw [Nat.blt_eq]; omega) q3, he 79 (2 * k + 1) rfl (by rw [Nat.blt_eq]; omega) q4]
  exact s4 k hk
theorem SV_f {md : yMd} {m m1 : zM} (h : SV m) (hf : zfm md m m1) (hc : zqm qSn md = true) : SV m1 := SV_e h (zq_f qSn_p hc hf)
theorem zhp_c {m1 m2 : zM} {h : zHp} (h1 : h = zhp m1) (h2 : h = zhp m2) {k i : Nat} (hp : zpl1 k i) : m1 k i = m2 k i := zhp_inj (h1.symm.trans h2) hp
theorem ps_feed {m : zM} {r : Option Value} {h' : zHp} {x0 : Int32} (ht : zTy m) (hR : RS m) (H : zEv none 19 zm_X7_feed (0, lv_args 0 [.ref 0, .int x0], [], zhp m) r h') : ∃ m1 v, r = some (.int v) ∧ h' = zhp m1 ∧ zTy m1 ∧ ∀ r2 h2, zEv none 19 zm_X8_feed (0, lv_args 0 [.ref 71, .int x0], [], zhp m1) r2 h2 → ∃ m2 v2, r2 = some (.int v2) ∧ h2 = zhp m2 ∧ zTy m2 ∧ RS m2 := by
  obtain ⟨hR1, hS⟩ := hR
  obtain ⟨m1, v, b1, b2, t1, K⟩ := pf_feed ht hR1 H
  obtain ⟨q1, q2, q3, q4, q5, q6⟩ := e_X7_feed ht H
  obtain ⟨_, f1⟩ := eng_m b2 q4 q5 q6
  refine ⟨m1, v, b1, b2, t1, fun r2 h2 H2 => ?_⟩
  obtain ⟨m2, v2, d1, d2, t2, R2⟩ := K r2 h2 H2
  obtain ⟨u1, u2, u3, u4, u5, u6⟩ := e_X8_feed t1 H2
  obtain ⟨_, f2⟩ := eng_m d2 u4 u5 u6
  exact ⟨m2, v2, d1, d2, t2, ⟨R2, SV_f (SV_f hS f1 (by decide +kernel)) f2 (by decide +kernel)⟩⟩
theorem ps_end {m : zM} {r : Option Value} {h' : zHp} {x0 : Int32} (ht : zTy m) (hR : RS m) (H : zEv none 19 zm_X7_end (0, lv_args 0 [.ref 0, .int x0], [], zhp m) r h') : ∃ m1 v, r = some (.int v) ∧ h' = zhp m1 ∧ zTy m1 ∧ ∀ r2 h2, zEv none 19 zm_X8_end (0, lv_args 0 [.ref 71, .int x0], [], zhp m1) r2 h2 → ∃ m2 v2, r2 = some (.int v2) ∧ h2 = zhp m2 ∧ zTy m2 ∧ RS m2 := by
  obtain ⟨hR1, hS⟩ := hR
  obtain ⟨m1, v, b1, b2, t1, K⟩ := pf_end ht hR1 H
  obtain ⟨q1, q2, q3, q4, q5, q6⟩ := e_X7_end ht H
  obtain ⟨_, f1⟩ := eng_m b2 q4 q5 q6
  refine ⟨m1, v, b1, b2, t1, fun r2 h2 H2 => ?_⟩
  obtain ⟨m2, v2, d1, d2, t2, R2⟩ := K r2 h2 H2
  obtain ⟨u1, u2, u3, u4, u5, u6⟩ := e_X8_end t1 H2
  obtain ⟨_, f2⟩ := eng_m d2 u4 u5 u6
  exact ⟨m2, v2, d1, d2, t2, ⟨R2, SV_f (SV_f hS f1 (by decide +kernel)) f2 (by decide +kernel)⟩⟩
theorem ps_fault {m : zM} {r : Option Value} {h' : zHp} (ht : zTy m) (hR : RS m) (H : zEv none 19 zm_X7_fault (0, lv_args 0 [.ref 0], [], zhp m) r h') : ∃ m1 v, r = some (.int v) ∧ h' = zhp m1 ∧ zTy m1 ∧ ∀ r2 h2, zEv none 19 zm_X8_fault (0, lv_args 0 [.ref 71], [], zhp m1) r2 h2 → ∃ m2 v2, r2 = some (.int v2) ∧ h2 = zhp m2 ∧ zTy m2 ∧ RS m2 := by
  obtain ⟨hR1, hS⟩ := hR
  obtain ⟨m1, v, b1, b2, t1, K⟩ := pf_fault ht hR1 H
  obtain ⟨q1, q2, q3, q4, q5, q6⟩ := e_X7_fault ht H
  obtain ⟨_, f1⟩ := eng_m b2 q4 q5 q6
  refine ⟨m1, v, b1, b2, t1, fun r2 h2 H2 => ?_⟩
  obtain ⟨m2, v2, d1, d2, t2, R2⟩ := K r2 h2 H2
  obtain ⟨u1, u2, u3, u4, u5, u6⟩ := e_X8_fault t1 H2
  obtain ⟨_, f2⟩ := eng_m d2 u4 u5 u6
  exact ⟨m2, v2, d1, d2, t2, ⟨R2, SV_f (SV_f hS f1 (by decide +kernel)) f2 (by decide +kernel)⟩⟩
theorem ps_rule {m : zM} {r : Option Value} {h' : zHp} {x0 : Int32} (ht : zTy m) (hR : RS m) (H : zEv none 19 zm_X7_rule (0, lv_args 0 [.ref 0, .int x0], [], zhp m) r h') : ∃ m1 v, r = some (.int v) ∧ h' = zhp m1 ∧ zTy m1 ∧ ∀ r2 h2, zEv none 19 zm_X8_rule (0, lv_args 0 [.ref 71, .int x0], [], zhp m1) r2 h2 → ∃ m2 v2, r2 = some (.int v2) ∧ h2 = zhp m2 ∧ zTy m2 ∧ RS m2 ∧ v = v2 := by
  obtain ⟨hR1, hS⟩ := hR
  obtain ⟨m1, v, b1, b2, t1, K⟩ := pf_rule ht hR1 H
  obtain ⟨q1, q2, q3, q4, q5, q6⟩ := e_X7_rule ht H
  obtain ⟨_, f1⟩ := eng_m b2 q4 q5 q6
  refine ⟨m1, v, b1, b2, t1, fun r2 h2 H2 => ?_⟩
  obtain ⟨m2, v2, d1, d2, t2, R2, e⟩ := K r2 h2 H2
  obtain ⟨u1, u2, u3, u4, u5, u6⟩ := e_X8_rule t1 H2
  obtain ⟨_, f2⟩ := eng_m d2 u4 u5 u6
  exact ⟨m2, v2, d1, d2, t2, ⟨R2, SV_f (SV_f hS f1 (by decide +kernel)) f2 (by decide +kernel)⟩, e⟩
theorem ps_one {m : zM} {r : Option Value} {h' : zHp} {x0 x1 : Int32} (ht : zTy m) (hR : RS m) (H : zEv none 19 zm_X7_one (0, lv_args 0 [.ref 0, .int x0, .int x1], [], zhp m) r h') : ∃ m1 v, r = some (.int v) ∧ h' = zhp m1 ∧ zTy m1 ∧ ∀ r2 h2, zEv none 19 zm_X8_one (0, lv_args 0 [.ref 71, .int x0, .int x1], [], zhp m1) r2 h2 → ∃ m2 v2, r2 = some (.int v2) ∧ h2 = zhp m2 ∧ zTy m2 ∧ RS m2 ∧ v = v2 := by
  obtain ⟨hR1, hS⟩ := hR
  obtain ⟨m1, v, b1, b2, t1, K⟩ := pf_one ht hR1 H
  obtain ⟨q1, q2, q3, q4, q5, q6⟩ := e_X7_one ht H
  obtain ⟨_, f1⟩ := eng_m b2 q4 q5 q6
  refine ⟨m1, v, b1, b2, t1, fun r2 h2 H2 => ?_⟩
  obtain ⟨m2, v2, d1, d2, t2, R2, e⟩ := K r2 h2 H2
  obtain ⟨u1, u2, u3, u4, u5, u6⟩ := e_X8_one t1 H2
  obtain ⟨_, f2⟩ := eng_m d2 u4 u5 u6
  exact ⟨m2, v2, d1, d2, t2, ⟨R2, SV_f (SV_f hS f1 (by decide +kernel)) f2 (by decide +kernel)⟩, e⟩
theorem ps_act {m : zM} {r : Option Value} {h' : zHp} {x0 : Int32} (ht : zTy m) (hR : RS m) (H : zEv none 19 zm_X7_act (0, lv_args 0 [.ref 0, .int x0], [], zhp m) r h') : ∃ m1 v, r = some (.int v) ∧ h' = zhp m1 ∧ zTy m1 ∧ ∀ r2 h2, zEv none 19 zm_X8_act (0, lv_args 0 [.ref 71, .int x0], [], zhp m1) r2 h2 → ∃ m2 v2, r2 = some (.int v2) ∧ h2 = zhp m2 ∧ zTy m2 ∧ RS m2 ∧ v = v2 := by
  obtain ⟨hR1, hS⟩ := hR
  obtain ⟨m1, v, b1, b2, t1, K⟩ := pf_act ht hR1 H
  obtain ⟨q1, q2, q3, q4, q5, q6⟩ := e_X7_act ht H
  obtain ⟨_, f1⟩ := eng_m b2 q4 q5 q6
  refine ⟨m1, v, b1, b2, t1, fun r2 h2 H2 => ?_⟩
  obtain ⟨m2, v2, d1, d2, t2, R2, e⟩ := K r2 h2 H2
  obtain ⟨u1, u2, u3, u4, u5, u6⟩ := e_X8_act t1 H2
  obtain ⟨_, f2⟩ := eng_m d2 u4 u5 u6
  exact ⟨m2, v2, d1, d2, t2, ⟨R2, SV_f (SV_f hS f1 (by decide +kernel)) f2 (by decide +kernel)⟩, e⟩
theorem ps_alter {m : zM} {r : Option Value} {h' : zHp} {x0 x1 x2 : Int32} (ht : zTy m) (hR : RS m) (H : zEv none 19 zm_X7_alter (0, lv_args 0 [.ref 0, .int x0, .int x1, .int x2], [], zhp m) r h') : ∃ m1 v, r = some (.int v) ∧ h' = zhp m1 ∧ zTy m1 ∧ ∀ r2 h2, zEv none 19 zm_X8_alter (0, lv_args 0 [.ref 71, .int x0, .int x1, .int x2], [], zhp m1) r2 h2 → ∃ m2 v2, r2 = some (.int v2) ∧ h2 = zhp m2 ∧ zTy m2 ∧ RS m2 ∧ v = v2 := by
  obtain ⟨hR1, hS⟩ := hR
  obtain ⟨m1, v, b1, b2, t1, K⟩ := pf_alter ht hR1 H
  obtain ⟨q1, q2, q3, q4, q5, q6⟩ := e_X7_alter ht H
  obtain ⟨_, f1⟩ := eng_m b2 q4 q5 q6
  refine ⟨m1, v, b1, b2, t1, fun r2 h2 H2 => ?_⟩
  obtain ⟨m2, v2, d1, d2, t2, R2, e⟩ := K r2 h2 H2
  obtain ⟨u1, u2, u3, u4, u5, u6⟩ := e_X8_alter t1 H2
  obtain ⟨_, f2⟩ := eng_m d2 u4 u5 u6
  exact ⟨m2, v2, d1, d2, t2, ⟨R2, SV_f (SV_f hS f1 (by decide +kernel)) f2 (by decide +kernel)⟩, e⟩
theorem ps_slack {m : zM} {r : Option Value} {h' : zHp} {x0 : Int32} (ht : zTy m) (hR : RS m) (H : zEv none 19 zm_X7_slack (0, lv_args 0 [.ref 0, .int x0], [], zhp m) r h') : ∃ m1 v, r = some (.int v) ∧ h' = zhp m1 ∧ zTy m1 ∧ ∀ r2 h2, zEv none 19 zm_X8_slack (0, lv_args 0 [.ref 71, .int x0], [], zhp m1) r2 h2 → ∃ m2 v2, r2 = some (.int v2) ∧ h2 = zhp m2 ∧ zTy m2 ∧ RS m2 ∧ v = v2 := by
  obtain ⟨hR1, hS⟩ := hR
  obtain ⟨m1, v, b1, b2, t1, K⟩ := pf_slack ht hR1 H
  obtain ⟨q1, q2, q3, q4, q5, q6⟩ := e_X7_slack ht H
  obtain ⟨_, f1⟩ := eng_m b2 q4 q5 q6
  refine ⟨m1, v, b1, b2, t1, fun r2 h2 H2 => ?_⟩
  obtain ⟨m2, v2, d1, d2, t2, R2, e⟩ := K r2 h2 H2
  obtain ⟨u1, u2, u3, u4, u5, u6⟩ := e_X8_slack t1 H2
  obtain ⟨_, f2⟩ := eng_m d2 u4 u5 u6
  exact ⟨m2, v2, d1, d2, t2, ⟨R2, SV_f (SV_f hS f1 (by decide +kernel)) f2 (by decide +kernel)⟩, e⟩
theorem ps_plan {m : zM} {r : Option Value} {h' : zHp} {x0 : Int32} (ht : zTy m) (hR : RS m) (H : zEv none 19 zm_X7_plan (0, lv_args 0 [.ref 0, .int x0], [], zhp m) r h') : ∃ m1 v, r = some (.int v) ∧ h' = zhp m1 ∧ zTy m1 ∧ ∀ r2 h2, zEv none 19 zm_X8_plan (0, lv_args 0 [.ref 71, .int x0], [], zhp m1) r2 h2 → ∃ m2 v2, r2 = some (.int v2) ∧ h2 = zhp m2 ∧ zTy m2 ∧ RS m2 ∧ v = v2 := by
  obtain ⟨hR1, hS⟩ := hR
  obtain ⟨m1, v, b1, b2, t1, K⟩ := pf_plan ht hR1 H
  obtain ⟨q1, q2, q3, q4, q5, q6⟩ := e_X7_plan ht H
  obtain ⟨_, f1⟩ := eng_m b2 q4 q5 q6
  refine ⟨m1, v, b1, b2, t1, fun r2 h2 H2 => ?_⟩
  obtain ⟨m2, v2, d1, d2, t2, R2, e⟩ := K r2 h2 H2
  obtain ⟨u1, u2, u3, u4, u5, u6⟩ := e_X8_plan t1 H2
  obtain ⟨_, f2⟩ := eng_m d2 u4 u5 u6
  exact ⟨m2, v2, d1, d2, t2, ⟨R2, SV_f (SV_f hS f1 (by decide +kernel)) f2 (by decide +kernel)⟩, e⟩
theorem ps_cut {m : zM} {r : Option Value} {h' : zHp} {x0 : Int32} (ht : zTy m) (hR : RS m) (H : zEv none 19 zm_X7_cut (0, lv_args 0 [.ref 0, .int x0], [], zhp m) r h') : ∃ m1 v, r = some (.int v) ∧ h' = zhp m1 ∧ zTy m1 ∧ ∀ r2 h2, zEv none 19 zm_X8_cut (0, lv_args 0 [.ref 71, .int x0], [], zhp m1) r2 h2 → ∃ m2 v2, r2 = some (.int v2) ∧ h2 = zhp m2 ∧ zTy m2 ∧ RS m2 ∧ v = v2 := by
  obtain ⟨hR1, hS⟩ := hR
  obtain ⟨m1, v, b1, b2, t1, K⟩ := pf_cut ht hR1 H
  obtain ⟨q1, q2, q3, q4, q5, q6⟩ := e_X7_cut ht H
  obtain ⟨_, f1⟩ := eng_m b2 q4 q5 q6
  refine ⟨m1, v, b1, b2, t1, fun r2 h2 H2 => ?_⟩
  obtain ⟨m2, v2, d1, d2, t2, R2, e⟩ := K r2 h2 H2
  obtain ⟨u1, u2, u3, u4, u5, u6⟩ := e_X8_cut t1 H2
  obtain ⟨_, f2⟩ := eng_m d2 u4 u5 u6
  exact ⟨m2, v2, d1, d2, t2, ⟨R2, SV_f (SV_f hS f1 (by decide +kernel)) f2 (by decide +kernel)⟩, e⟩
theorem ps_turn {m : zM} {r : Option Value} {h' : zHp} {x0 : Int32} (ht : zTy m) (hR : RS m) (H : zEv none 19 zm_X7_turn (0, lv_args 0 [.ref 0, .int x0], [], zhp m) r h') : ∃ m1 v, r = some (.int v) ∧ h' = zhp m1 ∧ zTy m1 ∧ ∀ r2 h2, zEv none 19 zm_X8_turn (0, lv_args 0 [.ref 71, .int x0], [], zhp m1) r2 h2 → ∃ m2 v2, r2 = some (.int v2) ∧ h2 = zhp m2 ∧ zTy m2 ∧ RS m2 ∧ v = v2 := by
  obtain ⟨hR1, hS⟩ := hR
  obtain ⟨m1, v, b1, b2, t1, K⟩ := pf_turn ht hR1 H
  obtain ⟨q1, q2, q3, q4, q5, q6⟩ := e_X7_turn ht H
  obtain ⟨_, f1⟩ := eng_m b2 q4 q5 q6
  refine ⟨m1, v, b1, b2, t1, fun r2 h2 H2 => ?_⟩
  obtain ⟨m2, v2, d1, d2, t2, R2, e⟩ := K r2 h2 H2
  obtain ⟨u1, u2, u3, u4, u5, u6⟩ := e_X8_turn t1 H2
  obtain ⟨_, f2⟩ := eng_m d2 u4 u5 u6
  exact ⟨m2, v2, d1, d2, t2, ⟨R2, SV_f (SV_f hS f1 (by decide +kernel)) f2 (by decide +kernel)⟩, e⟩
theorem ps_rest {m : zM} {r : Option Value} {h' : zHp} {x0 : Int32} (ht : zTy m) (hR : RS m) (H : zEv none 19 zm_X7_rest (0, lv_args 0 [.ref 0, .int x0], [], zhp m) r h') : ∃ m1 v, r = some (.int v) ∧ h' = zhp m1 ∧ zTy m1 ∧ ∀ r2 h2, zEv none 19 zm_X8_rest (0, lv_args 0 [.ref 71, .int x0], [], zhp m1) r2 h2 → ∃ m2 v2, r2 = some (.int v2) ∧ h2 = zhp m2 ∧ zTy m2 ∧ RS m2 ∧ v = v2 := by
  obtain ⟨hR1, hS⟩ := hR
  obtain ⟨m1, v, b1, b2, t1, K⟩ := pf_rest ht hR1 H
  obtain ⟨q1, q2, q3, q4, q5, q6⟩ := e_X7_rest ht H
  obtain ⟨_, f1⟩ := eng_m b2 q4 q5 q6
  refine ⟨m1, v, b1, b2, t1, fun r2 h2 H2 => ?_⟩
  obtain ⟨m2, v2, d1, d2, t2, R2, e⟩ := K r2 h2 H2
  obtain ⟨u1, u2, u3, u4, u5, u6⟩ := e_X8_rest t1 H2
  obtain ⟨_, f2⟩ := eng_m d2 u4 u5 u6
  exact ⟨m2, v2, d1, d2, t2, ⟨R2, SV_f (SV_f hS f1 (by decide +kernel)) f2 (by decide +kernel)⟩, e⟩
theorem ps_runs {m : zM} {r : Option Value} {h' : zHp} {x0 : Int32} (ht : zTy m) (hR : RS m) (H : zEv none 19 zm_X7_runs (0, lv_args 0 [.ref 0, .int x0], [], zhp m) r h') : ∃ m1 v, r = some (.int v) ∧ h' = zhp m1 ∧ zTy m1 ∧ ∀ r2 h2, zEv none 19 zm_X8_runs (0, lv_args 0 [.ref 71, .int x0], [], zhp m1) r2 h2 → ∃ m2 v2, r2 = some (.int v2) ∧ h2 = zhp m2 ∧ zTy m2 ∧ RS m2 := by
  obtain ⟨hR1, hS⟩ := hR
  obtain ⟨m1, v, b1, b2, t1, K⟩ := pf_runs ht hR1 H
  obtain ⟨q1, q2, q3, q4, q5, q6⟩ := e_X7_runs ht H
  obtain ⟨_, f1⟩ := eng_m b2 q4 q5 q6
  refine ⟨m1, v, b1, b2, t1, fun r2 h2 H2 => ?_⟩
  obtain ⟨m2, v2, d1, d2, t2, R2⟩ := K r2 h2 H2
  obtain ⟨u1, u2, u3, u4, u5, u6⟩ := e_X8_runs t1 H2
  obtain ⟨_, f2⟩ := eng_m d2 u4 u5 u6
  exact ⟨m2, v2, d1, d2, t2, ⟨R2, SV_f (SV_f hS f1 (by decide +kernel)) f2 (by decide +kernel)⟩⟩
theorem ps_ahead {m : zM} {r : Option Value} {h' : zHp} {x0 : Int32} (ht : zTy m) (hR : RS m) (H : zEv none 19 zm_X7_ahead (0, lv_args 0 [.ref 0, .int x0], [], zhp m) r h') : ∃ m1 v, r = some (.int v) ∧ h' = zhp m1 ∧ zTy m1 ∧ ∀ r2 h2, zEv none 19 zm_X8_ahead (0, lv_args 0 [.ref 71, .int x0], [], zhp m1) r2 h2 → ∃ m2 v2, r2 = some (.int v2) ∧ h2 = zhp m2 ∧ zTy m2 ∧ RS m2 := by
  obtain ⟨hR1, hS⟩ := hR
  obtain ⟨m1, v, b1, b2, t1, K⟩ := pf_ahead ht hR1 H
  obtain ⟨q1, q2, q3, q4, q5, q6⟩ := e_X7_ahead ht H
  obtain ⟨_, f1⟩ := eng_m b2 q4 q5 q6
  refine ⟨m1, v, b1, b2, t1, fun r2 h2 H2 => ?_⟩
  obtain ⟨m2, v2, d1, d2, t2, R2⟩ := K r2 h2 H2
  obtain ⟨u1, u2, u3, u4, u5, u6⟩ := e_X8_ahead t1 H2
  obtain ⟨_, f2⟩ := eng_m d2 u4 u5 u6
  exact ⟨m2, v2, d1, d2, t2, ⟨R2, SV_f (SV_f hS f1 (by decide +kernel)) f2 (by decide +kernel)⟩⟩
theorem ps_round {m : zM} {r : Option Value} {h' : zHp} (ht : zTy m) (hR : RS m) (H : zEv none 19 zm_X7_round (0, lv_args 0 [.ref 0], [], zhp m) r h') : ∃ m1 v, r = some (.int v) ∧ h' = zhp m1 ∧ zTy m1 ∧ ∀ r2 h2, zEv none 19 zm_X8_round (0, lv_args 0 [.ref 71], [], zhp m1) r2 h2 → ∃ m2 v2, r2 = some (.int v2) ∧ h2 = zhp m2 ∧ zTy m2 ∧ RS m2 := by
  obtain ⟨hR1, hS⟩ := hR
  obtain ⟨m1, v, b1, b2, t1, K⟩ := pf_round ht hR1 H
  obtain ⟨q1, q2, q3, q4, q5, q6⟩ := e_X7_round ht H
  obtain ⟨_, f1⟩ := eng_m b2 q4 q5 q6
  refine ⟨m1, v, b1, b2, t1, fun r2 h2 H2 => ?_⟩
  obtain ⟨m2, v2, d1, d2, t2, R2⟩ := K r2 h2 H2
  obtain ⟨u1, u2, u3, u4, u5, u6⟩ := e_X8_round t1 H2
  obtain ⟨_, f2⟩ := eng_m d2 u4 u5 u6
  exact ⟨m2, v2, d1, d2, t2, ⟨R2, SV_f (SV_f hS f1 (by decide +kernel)) f2 (by decide +kernel)⟩⟩
theorem ps_order {m : zM} {r : Option Value} {h' : zHp} {x0 x1 : Int32} (ht : zTy m) (hR : RS m) (H : zEv none 19 zm_X7_order (0, lv_args 0 [.ref 0, .int x0, .int x1], [], zhp m) r h') : ∃ m1 v, r = some (.int v) ∧ h' = zhp m1 ∧ zTy m1 ∧ ∀ r2 h2, zEv none 19 zm_X8_order (0, lv_args 0 [.ref 71, .int x0, .int x1], [], zhp m1) r2 h2 → ∃ m2 v2, r2 = some (.int v2) ∧ h2 = zhp m2 ∧ zTy m2 ∧ RS m2 := by
  obtain ⟨hR1, hS⟩ := hR
  obtain ⟨m1, v, b1, b2, t1, K⟩ := pf_order ht hR1 H
  obtain ⟨q1, q2, q3, q4, q5, q6⟩ := e_X7_order ht H
  obtain ⟨_, f1⟩ := eng_m b2 q4 q5 q6
  refine ⟨m1, v, b1, b2, t1, fun r2 h2 H2 => ?_⟩
  obtain ⟨m2, v2, d1, d2, t2, R2⟩ := K r2 h2 H2
  obtain ⟨u1, u2, u3, u4, u5, u6⟩ := e_X8_order t1 H2
  obtain ⟨_, f2⟩ := eng_m d2 u4 u5 u6
  exact ⟨m2, v2, d1, d2, t2, ⟨R2, SV_f (SV_f hS f1 (by decide +kernel)) f2 (by decide +kernel)⟩⟩
theorem ps_await {m : zM} {r : Option Value} {h' : zHp} {x0 x1 : Int32} (ht : zTy m) (hR : RS m) (H : zEv none 19 zm_X7_await (0, lv_args 0 [.ref 0, .int x0, .int x1], [], zhp m) r h') : ∃ m1 v, r = some (.int v) ∧ h' = zhp m1 ∧ zTy m1 ∧ ∀ r2 h2, zEv none 19 zm_X8_await (0, lv_args 0 [.ref 71, .int x0, .int x1], [], zhp m1) r2 h2 → ∃ m2 v2, r2 = some (.int v2) ∧ h2 = zhp m2 ∧ zTy m2 ∧ RS m2 := by
  obtain ⟨hR1, hS⟩ := hR
  obtain ⟨m1, v, b1, b2, t1, K⟩ := pf_await ht hR1 H
  obtain ⟨q1, q2, q3, q4, q5, q6⟩ := e_X7_await ht H
  obtain ⟨_, f1⟩ := eng_m b2 q4 q5 q6
  refine ⟨m1, v, b1, b2, t1, fun r2 h2 H2 => ?_⟩
  obtain ⟨m2, v2, d1, d2, t2, R2⟩ := K r2 h2 H2
  obtain ⟨u1, u2, u3, u4, u5, u6⟩ := e_X8_await t1 H2
  obtain ⟨_, f2⟩ := eng_m d2 u4 u5 u6
  exact ⟨m2, v2, d1, d2, t2, ⟨R2, SV_f (SV_f hS f1 (by decide +kernel)) f2 (by decide +kernel)⟩⟩
theorem ps_hands {m : zM} {r : Option Value} {h' : zHp} {x0 : Int32} (ht : zTy m) (hR : RS m) (H : zEv none 19 zm_X7_hands (0, lv_args 0 [.ref 0, .int x0], [], zhp m) r h') : ∃ m1 v, r = some (.int v) ∧ h' = zhp m1 ∧ zTy m1 ∧ ∀ r2 h2, zEv none 19 zm_X8_hands (0, lv_args 0 [.ref 71, .int x0], [], zhp m1) r2 h2 → ∃ m2 v2, r2 = some (.int v2) ∧ h2 = zhp m2 ∧ zTy m2 ∧ RS m2 := by
  obtain ⟨hR1, hS⟩ := hR
  obtain ⟨m1, v, b1, b2, t1, K⟩ := pf_hands ht hR1 H
  obtain ⟨q1, q2, q3, q4, q5, q6⟩ := e_X7_hands ht H
  obtain ⟨_, f1⟩ := eng_m b2 q4 q5 q6
  refine ⟨m1, v, b1, b2, t1, fun r2 h2 H2 => ?_⟩
  obtain ⟨m2, v2, d1, d2, t2, R2⟩ := K r2 h2 H2
  obtain ⟨u1, u2, u3, u4, u5, u6⟩ := e_X8_hands t1 H2
  obtain ⟨_, f2⟩ := eng_m d2 u4 u5 u6
  exact ⟨m2, v2, d1, d2, t2, ⟨R2, SV_f (SV_f hS f1 (by decide +kernel)) f2 (by decide +kernel)⟩⟩
theorem ps_clean {m : zM} {r : Option Value} {h' : zHp} {x0 : Int32} (ht : zTy m) (hR : RS m) (H : zEv none 19 zm_X7_clean (0, lv_args 0 [.ref 0, .int x0], [], zhp m) r h') : ∃ m1 v, r = some (.int v) ∧ h' = zhp m1 ∧ zTy m1 ∧ ∀ r2 h2, zEv none 19 zm_X8_clean (0, lv_args 0 [.ref 71, .int x0], [], zhp m1) r2 h2 → ∃ m2 v2, r2 = some (.int v2) ∧ h2 = zhp m2 ∧ zTy m2 ∧ RS m2 := by
  obtain ⟨hR1, hS⟩ := hR
  obtain ⟨m1, v, b1, b2, t1, K⟩ := pf_clean ht hR1 H
  obtain ⟨q1, q2, q3, q4, q5, q6⟩ := e_X7_clean ht H
  obtain ⟨_, f1⟩ := eng_m b2 q4 q5 q6
  refine ⟨m1, v, b1, b2, t1, fun r2 h2 H2 => ?_⟩
  obtain ⟨m2, v2, d1, d2, t2, R2⟩ := K r2 h2 H2
  obtain ⟨u1, u2, u3, u4, u5, u6⟩ := e_X8_clean t1 H2
  obtain ⟨_, f2⟩ := eng_m d2 u4 u5 u6
  exact ⟨m2, v2, d1, d2, t2, ⟨R2, SV_f (SV_f hS f1 (by decide +kernel)) f2 (by decide +kernel)⟩⟩
theorem ps_trade {m : zM} {r : Option Value} {h' : zHp} {x0 : Int32} (ht : zTy m) (hR : RS m) (H : zEv none 19 zm_X7_trade (0, lv_args 0 [.ref 0, .int x0], [], zhp m) r h') : ∃ m1 v, r = some (.int v) ∧ h' = zhp m1 ∧ zTy m1 ∧ ∀ r2 h2, zEv none 19 zm_X8_trade (0, lv_args 0 [.ref 71, .int x0], [], zhp m1) r2 h2 → ∃ m2 v2, r2 = some (.int v2) ∧ h2 = zhp m2 ∧ zTy m2 ∧ RS m2 := by
  obtain ⟨hR1, hS⟩ := hR
  obtain ⟨m1, v, b1, b2, t1, K⟩ := pf_trade ht hR1 H
  obtain ⟨q1, q2, q3, q4, q5, q6⟩ := e_X7_trade ht H
  obtain ⟨_, f1⟩ := eng_m b2 q4 q5 q6
  refine ⟨m1, v, b1, b2, t1, fun r2 h2 H2 => ?_⟩
  obtain ⟨m2, v2, d1, d2, t2, R2⟩ := K r2 h2 H2
  obtain ⟨u1, u2, u3, u4, u5, u6⟩ := e_X8_trade t1 H2
  obtain ⟨_, f2⟩ := eng_m d2 u4 u5 u6
  exact ⟨m2, v2, d1, d2, t2, ⟨R2, SV_f (SV_f hS f1 (by decide +kernel)) f2 (by decide +kernel)⟩⟩
theorem ps_loose {m : zM} {r : Option Value} {h' : zHp} (ht : zTy m) (hR : RS m) (H : zEv none 19 zm_X7_loose (0, lv_args 0 [.ref 0], [], zhp m) r h') : ∃ m1 v, r = some (.int v) ∧ h' = zhp m1 ∧ zTy m1 ∧ ∀ r2 h2, zEv none 19 zm_X8_loose (0, lv_args 0 [.ref 71], [], zhp m1) r2 h2 → ∃ m2 v2, r2 = some (.int v2) ∧ h2 = zhp m2 ∧ zTy m2 ∧ RS m2 := by
  obtain ⟨hR1, hS⟩ := hR
  obtain ⟨m1, v, b1, b2, t1, K⟩ := pf_loose ht hR1 H
  obtain ⟨q1, q2, q3, q4, q5, q6⟩ := e_X7_loose ht H
  obtain ⟨_, f1⟩ := eng_m b2 q4 q5 q6
  refine ⟨m1, v, b1, b2, t1, fun r2 h2 H2 => ?_⟩
  obtain ⟨m2, v2, d1, d2, t2, R2⟩ := K r2 h2 H2
  obtain ⟨u1, u2, u3, u4, u5, u6⟩ := e_X8_loose t1 H2
  obtain ⟨_, f2⟩ := eng_m d2 u4 u5 u6
  exact ⟨m2, v2, d1, d2, t2, ⟨R2, SV_f (SV_f hS f1 (by decide +kernel)) f2 (by decide +kernel)⟩⟩
theorem ps_mean {m : zM} {r : Option Value} {h' : zHp} {x0 x1 : Int32} (ht : zTy m) (hR : RS m) (H : zEv none 19 zm_X7_mean (0, lv_args 0 [.ref 0, .int x0, .int x1], [], zhp m) r h') : ∃ m1 v, r = some (.long v) ∧ h' = zhp m1 ∧ zTy m1 ∧ ∀ r2 h2, zEv none 19 zm_X8_mean (0, lv_args 0 [.ref 71, .int x0, .int x1], [], zhp m1) r2 h2 → ∃ m2 v2, r2 = some (.long v2) ∧ h2 = zhp m2 ∧ zTy m2 ∧ RS m2 := by
  obtain ⟨hR1, hS⟩ := hR
  obtain ⟨m1, v, b1, b2, t1, K⟩ := pf_mean ht hR1 H
  obtain ⟨q1, q2, q3, q4, q5, q6⟩ := e_X7_mean ht H
  obtain ⟨_, f1⟩ := eng_m b2 q4 q5 q6
  refine ⟨m1, v, b1, b2, t1, fun r2 h2 H2 => ?_⟩
  obtain ⟨m2, v2, d1, d2, t2, R2⟩ := K r2 h2 H2
  obtain ⟨u1, u2, u3, u4, u5, u6⟩ := e_X8_mean t1 H2
  obtain ⟨_, f2⟩ := eng_m d2 u4 u5 u6
  exact ⟨m2, v2, d1, d2, t2, ⟨R2, SV_f (SV_f hS f1 (by decide +kernel)) f2 (by decide +kernel)⟩⟩
theorem ps_luck {m : zM} {r : Option Value} {h' : zHp} {x0 x1 x2 : Int32} (ht : zTy m) (hR : RS m) (H : zEv none 19 zm_X7_luck (0, lv_args 0 [.ref 0, .int x0, .int x1, .int x2], [], zhp m) r h') : ∃ m1 v, r = some (.long v) ∧ h' = zhp m1 ∧ zTy m1 ∧ ∀ r2 h2, zEv none 19 zm_X8_luck (0, lv_args 0 [.ref 71, .int x0, .int x1, .int x2], [], zhp m1) r2 h2 → ∃ m2 v2, r2 = some (.long v2) ∧ h2 = zhp m2 ∧ zTy m2 ∧ RS m2 := by
  obtain ⟨hR1, hS⟩ := hR
  obtain ⟨m1, v, b1, b2, t1, K⟩ := pf_luck ht hR1 H
  obtain ⟨q1, q2, q3, q4, q5, q6⟩ := e_X7_luck ht H
  obtain ⟨_, f1⟩ := eng_m b2 q4 q5 q6
  refine ⟨m1, v, b1, b2, t1, fun r2 h2 H2 => ?_⟩
  obtain ⟨m2, v2, d1, d2, t2, R2⟩ := K r2 h2 H2
  obtain ⟨u1, u2, u3, u4, u5, u6⟩ := e_X8_luck t1 H2
  obtain ⟨_, f2⟩ := eng_m d2 u4 u5 u6
  exact ⟨m2, v2, d1, d2, t2, ⟨R2, SV_f (SV_f hS f1 (by decide +kernel)) f2 (by decide +kernel)⟩⟩
theorem ps_counts {m : zM} {r : Option Value} {h' : zHp} {x0 x1 : Int32} (ht : zTy m) (hR : RS m) (H : zEv none 19 zm_X7_counts (0, lv_args 0 [.ref 0, .int x0, .int x1], [], zhp m) r h') : ∃ m1 v, r = some (.int v) ∧ h' = zhp m1 ∧ zTy m1 ∧ ∀ r2 h2, zEv none 19 zm_X8_counts (0, lv_args 0 [.ref 71, .int x0, .int x1], [], zhp m1) r2 h2 → ∃ m2 v2, r2 = some (.int v2) ∧ h2 = zhp m2 ∧ zTy m2 ∧ RS m2 := by
  obtain ⟨hR1, hS⟩ := hR
  obtain ⟨m1, v, b1, b2, t1, K⟩ := pf_counts ht hR1 H
  obtain ⟨q1, q2, q3, q4, q5, q6⟩ := e_X7_counts ht H
  obtain ⟨_, f1⟩ := eng_m b2 q4 q5 q6
  refine ⟨m1, v, b1, b2, t1, fun r2 h2 H2 => ?_⟩
  obtain ⟨m2, v2, d1, d2, t2, R2⟩ := K r2 h2 H2
  obtain ⟨u1, u2, u3, u4, u5, u6⟩ := e_X8_counts t1 H2
  obtain ⟨_, f2⟩ := eng_m d2 u4 u5 u6
  exact ⟨m2, v2, d1, d2, t2, ⟨R2, SV_f (SV_f hS f1 (by decide +kernel)) f2 (by decide +kernel)⟩⟩
theorem ps_slacks {m : zM} {r : Option Value} {h' : zHp} (ht : zTy m) (hR : RS m) (H : zEv none 19 zm_X7_slacks (0, lv_args 0 [.ref 0], [], zhp m) r h') : ∃ m1 v, r = some (.int v) ∧ h' = zhp m1 ∧ zTy m1 ∧ ∀ r2 h2, zEv none 19 zm_X8_slacks (0, lv_args 0 [.ref 71], [], zhp m1) r2 h2 → ∃ m2 v2, r2 = some (.int v2) ∧ h2 = zhp m2 ∧ zTy m2 ∧ RS m2 := by
  obtain ⟨hR1, hS⟩ := hR
  obtain ⟨m1, v, b1, b2, t1, K⟩ := pf_slacks ht hR1 H
  obtain ⟨q1, q2, q3, q4, q5, q6⟩ := e_X7_slacks ht H
  obtain ⟨_, f1⟩ := eng_m b2 q4 q5 q6
  refine ⟨m1, v, b1, b2, t1, fun r2 h2 H2 => ?_⟩
  obtain ⟨m2, v2, d1, d2, t2, R2⟩ := K r2 h2 H2
  obtain ⟨u1, u2, u3, u4, u5, u6⟩ := e_X8_slacks t1 H2
  obtain ⟨_, f2⟩ := eng_m d2 u4 u5 u6
  exact ⟨m2, v2, d1, d2, t2, ⟨R2, SV_f (SV_f hS f1 (by decide +kernel)) f2 (by decide +kernel)⟩⟩
theorem ps_look {m : zM} {r : Option Value} {h' : zHp} {x0 x1 : Int32} (ht : zTy m) (hR : RS m) (H : zEv none 19 zm_X7_look (0, lv_args 0 [.ref 0, .int x0, .int x1], [], zhp m) r h') : ∃ m1 v, r = some (.int v) ∧ h' = zhp m1 ∧ zTy m1 ∧ ∀ r2 h2, zEv none 19 zm_X8_look (0, lv_args 0 [.ref 71, .int x0, .int x1], [], zhp m1) r2 h2 → ∃ m2 v2, r2 = some (.int v2) ∧ h2 = zhp m2 ∧ zTy m2 ∧ RS m2 := by
  obtain ⟨hR1, hS⟩ := hR
  obtain ⟨m1, v, b1, b2, t1, K⟩ := pf_look ht hR1 H
  obtain ⟨q1, q2, q3, q4, q5, q6⟩ := e_X7_look ht H
  obtain ⟨_, f1⟩ := eng_m b2 q4 q5 q6
  refine ⟨m1, v, b1, b2, t1, fun r2 h2 H2 => ?_⟩
  obtain ⟨m2, v2, d1, d2, t2, R2⟩ := K r2 h2 H2
  obtain ⟨u1, u2, u3, u4, u5, u6⟩ := e_X8_look t1 H2
  obtain ⟨_, f2⟩ := eng_m d2 u4 u5 u6
  exact ⟨m2, v2, d1, d2, t2, ⟨R2, SV_f (SV_f hS f1 (by decide +kernel)) f2 (by decide +kernel)⟩⟩
theorem ps_drift {m : zM} {r : Option Value} {h' : zHp} {x0 x1 x2 : Int32} (ht : zTy m) (hR : RS m) (H : zEv none 19 zm_X7_drift (0, lv_args 0 [.ref 0, .int x0, .int x1, .int x2], [], zhp m) r h') : ∃ m1 v, r = some (.int v) ∧ h' = zhp m1 ∧ zTy m1 ∧ ∀ r2 h2, zEv none 19 zm_X8_drift (0, lv_args 0 [.ref 71, .int x0, .int x1, .int x2], [], zhp m1) r2 h2 → ∃ m2 v2, r2 = some (.int v2) ∧ h2 = zhp m2 ∧ zTy m2 ∧ RS m2 := by
  obtain ⟨hR1, hS⟩ := hR
  obtain ⟨m1, v, b1, b2, t1, K⟩ := pf_drift ht hR1 H
  obtain ⟨q1, q2, q3, q4, q5, q6⟩ := e_X7_drift ht H
  obtain ⟨_, f1⟩ := eng_m b2 q4 q5 q6
  refine ⟨m1, v, b1, b2, t1, fun r2 h2 H2 => ?_⟩
  obtain ⟨m2, v2, d1, d2, t2, R2⟩ := K r2 h2 H2
  obtain ⟨u1, u2, u3, u4, u5, u6⟩ := e_X8_drift t1 H2
  obtain ⟨_, f2⟩ := eng_m d2 u4 u5 u6
  exact ⟨m2, v2, d1, d2, t2, ⟨R2, SV_f (SV_f hS f1 (by decide +kernel)) f2 (by decide +kernel)⟩⟩
theorem ps_keep {m : zM} {r : Option Value} {h' : zHp} {x0 : Int32} (ht : zTy m) (hR : RS m) (H : zEv none 19 zm_X7_keep (0, lv_args 0 [.ref 0, .int x0], [], zhp m) r h') : ∃ m1 v, r = some (.int v) ∧ h' = zhp m1 ∧ zTy m1 ∧ ∀ r2 h2, zEv none 19 zm_X8_keep (0, lv_args 0 [.ref 71, .int x0], [], zhp m1) r2 h2 → ∃ m2 v2, r2 = some (.int v2) ∧ h2 = zhp m2 ∧ zTy m2 ∧ RS m2 ∧ v = v2 := by
  obtain ⟨hR1, hS⟩ := hR
  obtain ⟨m1, v, b1, b2, t1, K⟩ := pf_keep ht hR1 H
  obtain ⟨q1, q2, q3, q4, q5, q6⟩ := e_X7_keep ht H
  obtain ⟨_, f1⟩ := eng_m b2 q4 q5 q6
  refine ⟨m1, v, b1, b2, t1, fun r2 h2 H2 => ?_⟩
  obtain ⟨m2, v2, d1, d2, t2, R2, e⟩ := K r2 h2 H2
  obtain ⟨u1, u2, u3, u4, u5, u6⟩ := e_X8_keep t1 H2
  obtain ⟨_, f2⟩ := eng_m d2 u4 u5 u6
  exact ⟨m2, v2, d1, d2, t2, ⟨R2, SV_f (SV_f hS f1 (by decide +kernel)) f2 (by decide +kernel)⟩, e⟩
theorem ps_back {m : zM} {r : Option Value} {h' : zHp} {x0 : Int32} (ht : zTy m) (hR : RS m) (H : zEv none 19 zm_X7_back (0, lv_args 0 [.ref 0, .int x0], [], zhp m) r h') : ∃ m1 v, r = some (.int v) ∧ h' = zhp m1 ∧ zTy m1 ∧ ∀ r2 h2, zEv none 19 zm_X8_back (0, lv_args 0 [.ref 71, .int x0], [], zhp m1) r2 h2 → ∃ m2 v2, r2 = some (.int v2) ∧ h2 = zhp m2 ∧ zTy m2 ∧ RS m2 ∧ v = v2 := by
  obtain ⟨hR1, hS⟩ := hR
  obtain ⟨m1, v, b1, b2, t1, K⟩ := pf_back ht hR1 H
  obtain ⟨q1, q2, q3, q4, q5, q6⟩ := e_X7_back ht H
  obtain ⟨_, f1⟩ := eng_m b2 q4 q5 q6
  refine ⟨m1, v, b1, b2, t1, fun r2 h2 H2 => ?_⟩
  obtain ⟨m2, v2, d1, d2, t2, R2, e⟩ := K r2 h2 H2
  obtain ⟨u1, u2, u3, u4, u5, u6⟩ := e_X8_back t1 H2
  obtain ⟨_, f2⟩ := eng_m d2 u4 u5 u6
  exact ⟨m2, v2, d1, d2, t2, ⟨R2, SV_f (SV_f hS f1 (by decide +kernel)) f2 (by decide +kernel)⟩, e⟩
theorem ps_sheet {m : zM} {r : Option Value} {h' : zHp} {x0 x1 x2 : Int32} (ht : zTy m) (hR : RS m) (H : zEv none 19 zm_X7_sheet (0, lv_args 0 [.ref 0, .int x0, .int x1, .int x2], [], zhp m) r h') : ∃ m1 v, r = some (.int v) ∧ h' = zhp m1 ∧ zTy m1 ∧ ∀ r2 h2, zEv none 19 zm_X8_sheet (0, lv_args 0 [.ref 71, .int x0, .int x1, .int x2], [], zhp m1) r2 h2 → ∃ m2 v2, r2 = some (.int v2) ∧ h2 = zhp m2 ∧ zTy m2 ∧ RS m2 := by
  obtain ⟨hR1, hS⟩ := hR
  obtain ⟨m1, v, b1, b2, t1, K⟩ := pf_sheet ht hR1 H
  obtain ⟨q1, q2, q3, q4, q5, q6⟩ := e_X7_sheet ht H
  obtain ⟨_, f1⟩ := eng_m b2 q4 q5 q6
  refine ⟨m1, v, b1, b2, t1, fun r2 h2 H2 => ?_⟩
  obtain ⟨m2, v2, d1, d2, t2, R2⟩ := K r2 h2 H2
  obtain ⟨u1, u2, u3, u4, u5, u6⟩ := e_X8_sheet t1 H2
  obtain ⟨_, f2⟩ := eng_m d2 u4 u5 u6
  exact ⟨m2, v2, d1, d2, t2, ⟨R2, SV_f (SV_f hS f1 (by decide +kernel)) f2 (by decide +kernel)⟩⟩
theorem ps_lay {m : zM} {r : Option Value} {h' : zHp} {x0 x1 x2 : Int32} (ht : zTy m) (hR : RS m) (H : zEv none 19 zm_X7_lay (0, lv_args 0 [.ref 0, .int x0, .int x1, .int x2], [], zhp m) r h') : ∃ m1 v, r = some (.int v) ∧ h' = zhp m1 ∧ zTy m1 ∧ ∀ r2 h2, zEv none 19 zm_X8_lay (0, lv_args 0 [.ref 71, .int x0, .int x1, .int x2], [], zhp m1) r2 h2 → ∃ m2 v2, r2 = some (.int v2) ∧ h2 = zhp m2 ∧ zTy m2 ∧ RS m2 := by
  obtain ⟨hR1, hS⟩ := hR
  obtain ⟨m1, v, b1, b2, t1, K⟩ := pf_lay ht hR1 H
  obtain ⟨q1, q2, q3, q4, q5, q6⟩ := e_X7_lay ht H
  obtain ⟨_, f1⟩ := eng_m b2 q4 q5 q6
  refine ⟨m1, v, b1, b2, t1, fun r2 h2 H2 => ?_⟩
  obtain ⟨m2, v2, d1, d2, t2, R2⟩ := K r2 h2 H2
  obtain ⟨u1, u2, u3, u4, u5, u6⟩ := e_X8_lay t1 H2
  obtain ⟨_, f2⟩ := eng_m d2 u4 u5 u6
  exact ⟨m2, v2, d1, d2, t2, ⟨R2, SV_f (SV_f hS f1 (by decide +kernel)) f2 (by decide +kernel)⟩⟩
theorem ps_read {m : zM} {r : Option Value} {h' : zHp} {x0 x1 x2 x3 : Int32} (ht : zTy m) (hR : RS m) (H : zEv none 19 zm_X7_read (0, lv_args 0 [.ref 0, .int x0, .int x1, .int x2, .int x3], [], zhp m) r h') : ∃ m1 v, r = some (.int v) ∧ h' = zhp m1 ∧ zTy m1 ∧ ∀ r2 h2, zEv none 19 zm_X8_read (0, lv_args 0 [.ref 71, .int x0, .int x1, .int x2, .int x3], [], zhp m1) r2 h2 → ∃ m2 v2, r2 = some (.int v2) ∧ h2 = zhp m2 ∧ zTy m2 ∧ RS m2 ∧ v = v2 := by
  obtain ⟨hR1, hS⟩ := hR
  obtain ⟨m1, v, b1, b2, t1, K⟩ := pf_read ht hR1 H
  obtain ⟨q1, q2, q3, q4, q5, q6⟩ := e_X7_read ht H
  obtain ⟨_, f1⟩ := eng_m b2 q4 q5 q6
  refine ⟨m1, v, b1, b2, t1, fun r2 h2 H2 => ?_⟩
  obtain ⟨m2, v2, d1, d2, t2, R2, e⟩ := K r2 h2 H2
  obtain ⟨u1, u2, u3, u4, u5, u6⟩ := e_X8_read t1 H2
  obtain ⟨_, f2⟩ := eng_m d2 u4 u5 u6
  exact ⟨m2, v2, d1, d2, t2, ⟨R2, SV_f (SV_f hS f1 (by decide +kernel)) f2 (by decide +kernel)⟩, e⟩
theorem ps_torn {m : zM} {r : Option Value} {h' : zHp} (ht : zTy m) (hR : RS m) (H : zEv none 19 zm_X7_torn (0, lv_args 0 [.ref 0], [], zhp m) r h') : ∃ m1 v, r = some (.int v) ∧ h' = zhp m1 ∧ zTy m1 ∧ ∀ r2 h2, zEv none 19 zm_X8_torn (0, lv_args 0 [.ref 71], [], zhp m1) r2 h2 → ∃ m2 v2, r2 = some (.int v2) ∧ h2 = zhp m2 ∧ zTy m2 ∧ RS m2 := by
  obtain ⟨hR1, hS⟩ := hR
  obtain ⟨m1, v, b1, b2, t1, K⟩ := pf_torn ht hR1 H
  obtain ⟨q1, q2, q3, q4, q5, q6⟩ := e_X7_torn ht H
  obtain ⟨_, f1⟩ := eng_m b2 q4 q5 q6
  refine ⟨m1, v, b1, b2, t1, fun r2 h2 H2 => ?_⟩
  obtain ⟨m2, v2, d1, d2, t2, R2⟩ := K r2 h2 H2
  obtain ⟨u1, u2, u3, u4, u5, u6⟩ := e_X8_torn t1 H2
  obtain ⟨_, f2⟩ := eng_m d2 u4 u5 u6
  exact ⟨m2, v2, d1, d2, t2, ⟨R2, SV_f (SV_f hS f1 (by decide +kernel)) f2 (by decide +kernel)⟩⟩
theorem ps_count {m : zM} {r : Option Value} {h' : zHp} {x0 : Int32} (ht : zTy m) (hR : RS m) (H : zEv none 19 zm_X7_count (0, lv_args 0 [.ref 0, .int x0], [], zhp m) r h') : ∃ m1 v, r = some (.int v) ∧ h' = zhp m1 ∧ zTy m1 ∧ ∀ r2 h2, zEv none 19 zm_X8_count (0, lv_args 0 [.ref 71, .int x0], [], zhp m1) r2 h2 → ∃ m2 v2, r2 = some (.int v2) ∧ h2 = zhp m2 ∧ zTy m2 ∧ RS m2 := by
  obtain ⟨hR1, hS⟩ := hR
  obtain ⟨m1, v, b1, b2, t1, K⟩ := pf_count ht hR1 H
  obtain ⟨q1, q2, q3, q4, q5, q6⟩ := e_X7_count ht H
  obtain ⟨_, f1⟩ := eng_m b2 q4 q5 q6
  refine ⟨m1, v, b1, b2, t1, fun r2 h2 H2 => ?_⟩
  obtain ⟨m2, v2, d1, d2, t2, R2⟩ := K r2 h2 H2
  obtain ⟨u1, u2, u3, u4, u5, u6⟩ := e_X8_count t1 H2
  obtain ⟨_, f2⟩ := eng_m d2 u4 u5 u6
  exact ⟨m2, v2, d1, d2, t2, ⟨R2, SV_f (SV_f hS f1 (by decide +kernel)) f2 (by decide +kernel)⟩⟩
theorem ps_text {m : zM} {r : Option Value} {h' : zHp} (ht : zTy m) (hR : RS m) (H : zEv none 19 zm_X7_text (0, lv_args 0 [.ref 0], [], zhp m) r h') : ∃ m1 v, r = some (.int v) ∧ h' = zhp m1 ∧ zTy m1 ∧ ∀ r2 h2, zEv none 19 zm_X8_text (0, lv_args 0 [.ref 71], [], zhp m1) r2 h2 → ∃ m2 v2, r2 = some (.int v2) ∧ h2 = zhp m2 ∧ zTy m2 ∧ RS m2 ∧ v = v2 := by
  obtain ⟨hR1, hS⟩ := hR
  obtain ⟨n, hT⟩ := hR1.1.1
  obtain ⟨m3, x1, _, _, _, x3, K3⟩ := tx_pair ht hT H
  obtain ⟨m1, v, b1, b2, t1, K⟩ := pf_text ht hR1 H
  obtain ⟨q1, q2, q3, q4, q5, q6⟩ := e_X7_text ht H
  obtain ⟨_, f1⟩ := eng_m b2 q4 q5 q6
  have e13 : ∀ {k i : Nat}, zpl1 k i → m1 k i = m3 k i := fun hp => zhp_c b2 x1 hp
  refine ⟨m1, v, b1, b2, t1, fun r2 h2 H2 => ?_⟩
  obtain ⟨m2, v2, d1, d2, t2, R2, e⟩ := K r2 h2 H2
  obtain ⟨u1, u2, u3, u4, u5, u6⟩ := e_X8_text t1 H2
  obtain ⟨_, f2⟩ := eng_m d2 u4 u5 u6
  have hz : zhp m1 = zhp m3 := b2.symm.trans x1
  obtain ⟨m4, y1, _, _, _, y3⟩ := K3 r2 h2 (by rw [← hz]; exact H2)
  have e24 : ∀ {k i : Nat}, zpl1 k i → m2 k i = m4 k i := fun hp => zhp_c d2 y1 hp
  refine ⟨m2, v2, d1, d2, t2, ⟨R2, ?_⟩, e⟩
  cases hx : pTx (m 2) n 161 zP0 0 0 with
  | inl f =>
    rw [hx] at x3 y3
    refine SV_e hS (fun k i hk hi q => ?_)
    rw [Nat.blt_eq] at hk hi
    have h1 := List.all_eq_true.mp (List.all_eq_true.mp qSn_p k (List.mem_range.mpr hk)) i (List.mem_range.mpr hi)
    rw [q] at h1
    have hp : zpl1 k i := zplb_ok (by simpa using h1)
    simp only [qSn, Bool.or_eq_true, Bool.and_eq_true, Nat.beq_eq, Nat.blt_eq, Nat.ble_eq] at q
    rw [e24 hp, y3.2.2 k i (by omega) (by omega), x3.2.2 k i (by omega) (by omega)]
  | inr q =>
    rw [hx] at x3 y3
    obtain ⟨_, _, _, z4, _, _, _⟩ := x3
    obtain ⟨_, _, _, _, _, w6, _, _, w9⟩ := y3
    refine ⟨0, by omega, ?_, ?_, fun k hk => by omega⟩
    · rw [e24 ⟨_, LY_40, rfl⟩, w9 40 3 (by omega) (by omega) (by omega) (by omega)]; exact z4
    · rw [e24 ⟨_, LY_71, rfl⟩]; exact w6
theorem ps_forget {m : zM} {r : Option Value} {h' : zHp} {x0 : Int32} (ht : zTy m) (hR : RS m) (H : zEv none 19 zm_X7_forget (0, lv_args 0 [.ref 0, .int x0], [], zhp m) r h') : ∃ m1 v, r = some (.int v) ∧ h' = zhp m1 ∧ zTy m1 ∧ ∀ r2 h2, zEv none 19 zm_X8_forget (0, lv_args 0 [.ref 71, .int x0], [], zhp m1) r2 h2 → ∃ m2 v2, r2 = some (.int v2) ∧ h2 = zhp m2 ∧ zTy m2 ∧ RS m2 ∧ v = v2 := by
  obtain ⟨hR1, hS⟩ := hR
  have hS0 := hS
  obtain ⟨s, s1, s2, s3, s4⟩ := hS
  have hR2 := hR1
  obtain ⟨⟨_, _, _, _, c, c1, ⟨⟨a1, c5, _⟩, _⟩, _⟩, _⟩ := hR2
  obtain ⟨m1, v, b1, b2, t1, K⟩ := pf_forget ht hR1 H
  obtain ⟨m3, w, x1, x2, x3⟩ := t_X7_forget (zE_of 1 rfl H)
  obtain ⟨q1, q2, q3, q4, q5, q6⟩ := e_X7_forget ht H
  obtain ⟨t3, f1⟩ := eng_m x2 q4 q5 q6
  refine ⟨m1, v, b1, b2, t1, fun r2 h2 H2 => ?_⟩
  obtain ⟨m2, v2, d1, d2, t2, R2, e⟩ := K r2 h2 H2
  have hz : zhp m1 = zhp m3 := b2.symm.trans x2
  rw [hz] at H2
  have g0 : m3 71 23 = m 40 3 := (f1 71 23 ⟨_, LY_71, rfl⟩ (by decide +kernel)).trans (s3.trans s2.symm)
  obtain ⟨m4, w2, y1, y2, y3⟩ := t_X8_forget (zE_of 1 rfl H2)
  have e24 : ∀ {k i : Nat}, zpl1 k i → m2 k i = m4 k i := fun hp => zhp_c d2 y2 hp
  refine ⟨m2, v2, d1, d2, t2, ⟨R2, SV_e (m := m4) ?_ (fun k i hk hi q => ?_)⟩, e⟩
  · rcases x3 with ⟨o1, _, rfl⟩ | ⟨o1, _, rfl⟩
    · rcases y3 with ⟨_, _, rfl⟩ | ⟨o2, _⟩
      · exact hS0
      · exact absurd (by rw [g0] at o2; exact o2) o1
    · rcases y3 with ⟨o2, _⟩ | ⟨_, _, rfl⟩
      · exact absurd (by rw [g0]; exact o1) o2
      · obtain ⟨j, j1, rfl⟩ := zbt_n s2 (by omega) o1
        refine ⟨j, by omega, by rw [zup_n (by omega), zup_s], by rw [zup_s], fun k hk => ?_⟩
        rw [zup_n (by omega), zup_n (by omega), zup_n (by omega), zup_n (by omega), zup_n (by omega), zup_n (by omega), zup_n (by omega), zup_n (by omega)]
        exact s4 k (by omega)
  · rw [Nat.blt_eq] at hk hi
    have h1 := List.all_eq_true.mp (List.all_eq_true.mp qSn_p k (List.mem_range.mpr hk)) i (List.mem_range.mpr hi)
    rw [q] at h1
    exact e24 (zplb_ok (by simpa using h1))
theorem ps_see {m : zM} {r : Option Value} {h' : zHp} {x0 x1 : Int32} (ht : zTy m) (hR : RS m) (H : zEv none 19 zm_X7_see (0, lv_args 0 [.ref 0, .int x0, .int x1], [], zhp m) r h') : ∃ m1 v, r = some (.int v) ∧ h' = zhp m1 ∧ zTy m1 ∧ ∀ r2 h2, zEv none 19 zm_X8_see (0, lv_args 0 [.ref 71, .int x0, .int x1], [], zhp m1) r2 h2 → ∃ m2 v2, r2 = some (.int v2) ∧ h2 = zhp m2 ∧ zTy m2 ∧ RS m2 ∧ v = v2 := by
  obtain ⟨hR1, hS⟩ := hR
  have hS0 := hS
  obtain ⟨s, s1, s2, s3, s4⟩ := hS
  have hR2 := hR1
  obtain ⟨⟨_, _, _, _, c, c1, ⟨⟨a1, c5, _⟩, _⟩, _⟩, _⟩ := hR2
  obtain ⟨m1, v, b1, b2, t1, K⟩ := pf_see ht hR1 H
  obtain ⟨m3, w, x1, x2, x3⟩ := t_X7_see s2 s1 (zE_of 0 rfl H)
  obtain ⟨q1, q2, q3, q4, q5, q6⟩ := e_X7_see ht H
  obtain ⟨t3, f1⟩ := eng_m x2 q4 q5 q6
  refine ⟨m1, v, b1, b2, t1, fun r2 h2 H2 => ?_⟩
  obtain ⟨m2, v2, d1, d2, t2, R2, e⟩ := K r2 h2 H2
  have hz : zhp m1 = zhp m3 := b2.symm.trans x2
  rw [hz] at H2
  have g0 : m3 71 2 = Int32.ofNat c := (f1 71 2 ⟨_, LY_71, rfl⟩ (by decide +kernel)).trans c1
  have g1 : m3 71 23 = Int32.ofNat s := (f1 71 23 ⟨_, LY_71, rfl⟩ (by decide +kernel)).trans s3
  rw [a1] at x3
  rw [← g0] at x3
  obtain ⟨m4, w2, y1, y2, y3⟩ := t_X8_see g0 c5 g1 s1 (zE_of 0 rfl H2)
  have e24 : ∀ {k i : Nat}, zpl1 k i → m2 k i = m4 k i := fun hp => zhp_c d2 y2 hp
  refine ⟨m2, v2, d1, d2, t2, ⟨R2, SV_e (m := m4) ?_ (fun k i hk hi q => ?_)⟩, e⟩
  · rcases x3 with ⟨o1, _, rfl⟩ | ⟨o1, e8, _, rfl⟩ | ⟨o1, e8, _, rfl⟩
    · rcases y3 with ⟨_, _, rfl⟩ | ⟨o2, _⟩ | ⟨o2, _⟩
      · exact hS0
      · exact absurd o2 o1
      · exact absurd o2 o1
    · rcases y3 with ⟨o2, _⟩ | ⟨_, _, _, rfl⟩ | ⟨_, e9, _⟩
      · exact absurd o1 o2
      · exact hS0
      · omega
    · rcases y3 with ⟨o2, _⟩ | ⟨_, e9, _⟩ | ⟨_, _, _, rfl⟩
      · exact absurd o1 o2
      · omega
      · refine ⟨s + 1, by omega, by rw [zup_n (by omega), zup_n (by omega), zup_n (by omega), zup_s], by rw [zup_s], fun k hk => ?_⟩
        by_cases e : k = s
        · subst e
          refine ⟨?_, ?_⟩
          · rw [zup_n (by omega), zup_n (by omega), zup_n (by omega), zup_n (by omega), zup_n (by omega), zup_s, zup_n (by omega), zup_n (by omega), zup_s]
          · rw [zup_n (by omega), zup_n (by omega), zup_n (by omega), zup_n (by omega), zup_s, zup_n (by omega), zup_s]
        · rw [zup_n (by omega), zup_n (by omega), zup_n (by omega), zup_n (by omega), zup_n (by omega), zup_n (by omega), zup_n (by omega), zup_n (by omega), zup_n (by omega), zup_n (by omega), zup_n (by omega), zup_n (by omega), zup_n (by omega), zup_n (by omega), zup_n (by omega), zup_n (by omega), zup_n (by omega), zup_n (by omega), zup_n (by omega), zup_n (by omega), zup_n (by omega), zup_n (by omega), zup_n (by omega), zup_n (by omega)]
          exact s4 k (by omega)
  · rw [Nat.blt_eq] at hk hi
    have h1 := List.all_eq_true.mp (List.all_eq_true.mp qSn_p k (List.mem_range.mpr hk)) i (List.mem_range.mpr hi)
    rw [q] at h1
    exact e24 (zplb_ok (by simpa using h1))
def gFt (E sa sw : Nat → Int32) : Nat → Nat → Bool
  | 0, _ => true
  | j + 1, i => decide (E (sa i).toNatClampNeg = sw i) && gFt E sa sw j (i + 1)
def cS (m : zM) (s : Nat) (sa sw : Nat → Int32) : Prop := s ≤ 6 ∧ m 40 3 = Int32.ofNat s ∧ ∀ k, k < s → m 41 k = sa k ∧ m 42 k = sw k
def rS (m : zM) (s : Nat) (sa sw : Nat → Int32) : Prop := s ≤ 6 ∧ m 71 23 = Int32.ofNat s ∧ ∀ k, k < s → m 79 (2 * k) = sa k ∧ m 79 (2 * k + 1) = sw k
theorem cS_f {m m1 : zM} {s : Nat} {sa sw : Nat → Int32} (h : cS m s sa sw) (hf : ∀ a b, 40 ≤ a → a ≤ 42 → m1 a b = m a b) : cS m1 s sa sw := ⟨h.1, by rw [hf _ _ (by omega) (by omega)]; exact h.2.1, fun k hk => by rw [hf _ _ (by omega) (by omega), hf _ _ (by omega) (by omega)]; exact h.2.2 k hk⟩
theorem rS_f {m m1 : zM} {s : Nat} {sa sw : Nat → Int32} (h : rS m s sa sw) (h1 : m1 71 23 = m 71 23) (hf : ∀ b, m1 79 b = m 79 b) : rS m1 s sa sw := ⟨h.1, by rw [h1]; exact h.2.1, fun k hk => by rw [hf, hf]; exact h.2.2 k hk⟩
theorem ft_loop {m : zM} {s : Nat} {E sa sw : Nat → Int32} (hS : cS m s sa sw) (hE : ∀ i, i < 8 → m 28 i = E i) : ∀ (j i d : Nat) (r : Option Value) (h' : zHp), i + j = s → zE none d zm_X6_fits 2 [.ref 40, .ref 19, .int (Int32.ofNat i)] [] m r h' → r = some (.int (if gFt E sa sw j i = true then 1 else 0)) ∧ h' = zhp m := by
  intro j
  induction j with
  | zero =>
    intro i d r h' hj H
    have hs6 := hS.1
    replace H := i_iln (q := 3) H I_X6_fits_2 rfl rfl
    replace H := i_aln (q := 4) H I_X6_fits_3 rfl rfl
    replace H := i_gfi (q := 7) H I_X6_fits_4 G_6_21 cn_X6_fits LY_40 rfl rfl
    have W := i_ic_ge (t := 38) (q := 10) H I_X6_fits_7 (by decide) rfl
    clear H
    rcases W with ⟨c_7, H⟩ | ⟨c_7, H⟩
    · skip
      replace H := i_icst (x := 1) (q := 39) H I_X6_fits_38 (by decide) rfl
      obtain ⟨hr, hh⟩ := i_ir H I_X6_fits_39
      exact ⟨hr, hh⟩
    · exfalso
      rw [hS.2.1] at c_7
      exact absurd ((zofn_lt (by omega) (by omega)).mp c_7) (by omega)
  | succ j ih =>
    intro i d r h' hj H
    have hs6 := hS.1
    replace H := i_iln (q := 3) H I_X6_fits_2 rfl rfl
    replace H := i_aln (q := 4) H I_X6_fits_3 rfl rfl
    replace H := i_gfi (q := 7) H I_X6_fits_4 G_6_21 cn_X6_fits LY_40 rfl rfl
    have W := i_ic_ge (t := 38) (q := 10) H I_X6_fits_7 (by decide) rfl
    clear H
    rcases W with ⟨c_7, H⟩ | ⟨c_7, H⟩
    · exfalso
      rw [hS.2.1] at c_7
      exact c_7 ((zofn_lt (by omega) (by omega)).mpr (by omega))
    · skip
      replace H := i_aln (q := 11) H I_X6_fits_10 rfl rfl
      replace H := i_gfr (q := 14) H I_X6_fits_11 G_6_25 cn_X6_fits LY_19 rfl rfl
      replace H := i_aln (q := 15) H I_X6_fits_14 rfl rfl
      replace H := i_gfr (q := 18) H I_X6_fits_15 G_6_9 cn_X6_fits LY_40 rfl rfl
      replace H := i_iln (q := 19) H I_X6_fits_18 rfl rfl
      have W := i_ia (q := 20) H I_X6_fits_19 LY_41 rfl
      clear H
      obtain ⟨i_19, bi_19, ei_19, H⟩ := W
      have W := i_ia (q := 21) H I_X6_fits_20 LY_28 rfl
      clear H
      obtain ⟨i_20, bi_20, ei_20, H⟩ := W
      replace H := i_aln (q := 22) H I_X6_fits_21 rfl rfl
      replace H := i_gfr (q := 25) H I_X6_fits_22 G_6_15 cn_X6_fits LY_40 rfl rfl
      replace H := i_iln (q := 26) H I_X6_fits_25 rfl rfl
      have W := i_ia (q := 27) H I_X6_fits_26 LY_42 rfl
      clear H
      obtain ⟨i_26, bi_26, ei_26, H⟩ := W
      have W := i_ic_eq (t := 32) (q := 30) H I_X6_fits_27 (by decide) rfl
      clear H
      rcases W with ⟨c_27, H⟩ | ⟨c_27, H⟩
      · skip
        replace H := i_inc (q := 35) H I_X6_fits_32 rfl rfl rfl
        replace H := i_goto (q := 2) H I_X6_fits_35 (by decide)
        have e1 : i = i_19 := zofn ei_19 (by omega) (by omega)
        subst e1
        have e2 : i = i_26 := zofn ei_26 (by omega) (by omega)
        subst e2
        obtain ⟨k1, k2⟩ := hS.2.2 i (by omega)
        rw [k1] at ei_20
        have e3 : (sa i).toNatClampNeg = i_20 := by rw [ei_20, Int32.toNatClampNeg_ofNat_of_lt (by omega)]
        rw [k2, hE i_20 bi_20] at c_27
        replace H : zE none d zm_X6_fits 2 [.ref 40, .ref 19, .int (Int32.ofNat (i + 1))] [] m r h' := by
          rw [← zofn_s]
          exact H
        rw [gFt, e3, decide_eq_true c_27, Bool.true_and]
        exact ih (i + 1) d r h' (by omega) H
      · skip
        replace H := i_icst (x := 0) (q := 31) H I_X6_fits_30 (by decide) rfl
        obtain ⟨hr, hh⟩ := i_ir H I_X6_fits_31
        have e1 : i = i_19 := zofn ei_19 (by omega) (by omega)
        subst e1
        have e2 : i = i_26 := zofn ei_26 (by omega) (by omega)
        subst e2
        obtain ⟨k1, k2⟩ := hS.2.2 i (by omega)
        rw [k1] at ei_20
        have e3 : (sa i).toNatClampNeg = i_20 := by rw [ei_20, Int32.toNatClampNeg_ofNat_of_lt (by omega)]
        rw [k2, hE i_20 bi_20] at c_27
        rw [gFt, e3, decide_eq_false c_27, Bool.false_and]
        exact ⟨hr, hh⟩
theorem t_X6_fits {d : Nat} {m : zM} {r : Option Value} {h' : zHp} {s : Nat} {E sa sw : Nat → Int32} (hS : cS m s sa sw) (hE : ∀ i, i < 8 → m 28 i = E i) (H : zE none d zm_X6_fits 0 [.ref 40, .ref 19, .null] [] m r h') : r = some (.int (if gFt E sa sw s 0 = true then 1 else 0)) ∧ h' = zhp m := by
  replace H := i_icst (x := 0) (q := 1) H I_X6_fits_0 (by decide) rfl
  replace H := i_isn (q := 2) H I_X6_fits_1 rfl rfl
  exact ft_loop hS hE s 0 d r h' (by omega) H
theorem iz_loop {m : zM} {s : Nat} {E sa sw : Nat → Int32} (hS : rS m s sa sw) (hE : ∀ i, i < 8 → m 78 i = E i) : ∀ (j i : Nat) (b : Bool) (d : Nat) (r : Option Value) (h' : zHp), i + j = s → zE none d zm_X8_isAsSeen 4 [.ref 71, .int (if b = true then 1 else 0), .int (Int32.ofNat i)] [] m r h' → r = some (.int (if (b && gFt E sa sw j i) = true then 1 else 0)) ∧ h' = zhp m := by
  intro j
  induction j with
  | zero =>
    intro i b d r h' hj H
    have hs6 := hS.1
    cases b with
    | false =>
      replace H := i_iln (q := 5) H I_X8_isAsSeen_4 rfl rfl
      replace H := i_aln (q := 6) H I_X8_isAsSeen_5 rfl rfl
      replace H := i_gfi (q := 9) H I_X8_isAsSeen_6 G_8_134 cn_X8_isAsSeen LY_71 rfl rfl
      have W := i_ic_ge (t := 54) (q := 12) H I_X8_isAsSeen_9 (by decide) rfl
      clear H
      rcases W with ⟨c_9, H⟩ | ⟨c_9, H⟩
      · skip
        replace H := i_iln (q := 55) H I_X8_isAsSeen_54 rfl rfl
        obtain ⟨hr, hh⟩ := i_ir H I_X8_isAsSeen_55
        exact ⟨hr, hh⟩
      · exfalso
        rw [hS.2.1] at c_9
        exact absurd ((zofn_lt (by omega) (by omega)).mp c_9) (by omega)
    | true =>
      replace H := i_iln (q := 5) H I_X8_isAsSeen_4 rfl rfl
      replace H := i_aln (q := 6) H I_X8_isAsSeen_5 rfl rfl
      replace H := i_gfi (q := 9) H I_X8_isAsSeen_6 G_8_134 cn_X8_isAsSeen LY_71 rfl rfl
      have W := i_ic_ge (t := 54) (q := 12) H I_X8_isAsSeen_9 (by decide) rfl
      clear H
      rcases W with ⟨c_9, H⟩ | ⟨c_9, H⟩
      · skip
        replace H := i_iln (q := 55) H I_X8_isAsSeen_54 rfl rfl
        obtain ⟨hr, hh⟩ := i_ir H I_X8_isAsSeen_55
        exact ⟨hr, hh⟩
      · exfalso
        rw [hS.2.1] at c_9
        exact absurd ((zofn_lt (by omega) (by omega)).mp c_9) (by omega)
  | succ j ih =>
    intro i b d r h' hj H
    have hs6 := hS.1
    cases b with
    | false =>
      replace H := i_iln (q := 5) H I_X8_isAsSeen_4 rfl rfl
      replace H := i_aln (q := 6) H I_X8_isAsSeen_5 rfl rfl
      replace H := i_gfi (q := 9) H I_X8_isAsSeen_6 G_8_134 cn_X8_isAsSeen LY_71 rfl rfl
      have W := i_ic_ge (t := 54) (q := 12) H I_X8_isAsSeen_9 (by decide) rfl
      clear H
      rcases W with ⟨c_9, H⟩ | ⟨c_9, H⟩
      · exfalso
        rw [hS.2.1] at c_9
        exact c_9 ((zofn_lt (by omega) (by omega)).mpr (by omega))
      · skip
        replace H := i_iln (q := 13) H I_X8_isAsSeen_12 rfl rfl
        have W := i_if_eq (t := 46) (q := 16) H I_X8_isAsSeen_13 (by decide) rfl
        clear H
        rcases W with ⟨c_13, H⟩ | ⟨c_13, H⟩
        · skip
          replace H := i_icst (x := 0) (q := 47) H I_X8_isAsSeen_46 (by decide) rfl
          replace H := i_isn (q := 48) H I_X8_isAsSeen_47 rfl rfl
          replace H := i_inc (q := 51) H I_X8_isAsSeen_48 rfl rfl rfl
          replace H := i_goto (q := 4) H I_X8_isAsSeen_51 (by decide)
          replace H : zE none d zm_X8_isAsSeen 4 [.ref 71, .int (if false = true then 1 else 0), .int (Int32.ofNat (i + 1))] [] m r h' := by
            rw [← zofn_s]
            exact H
          have h := ih (i + 1) false d r h' (by omega) H
          rw [Bool.false_and] at h ⊢
          exact h
        · skip
          replace H := i_aln (q := 17) H I_X8_isAsSeen_16 rfl rfl
          replace H := i_gfr (q := 20) H I_X8_isAsSeen_17 G_8_28 cn_X8_isAsSeen LY_71 rfl rfl
          replace H := i_aln (q := 21) H I_X8_isAsSeen_20 rfl rfl
          replace H := i_gfr (q := 24) H I_X8_isAsSeen_21 G_8_31 cn_X8_isAsSeen LY_71 rfl rfl
          replace H := i_icst (x := 2) (q := 25) H I_X8_isAsSeen_24 (by decide) rfl
          replace H := i_iln (q := 26) H I_X8_isAsSeen_25 rfl rfl
          replace H := i_imul (q := 27) H I_X8_isAsSeen_26 rfl
          have W := i_ia (q := 28) H I_X8_isAsSeen_27 LY_79 rfl
          clear H
          obtain ⟨i_27, bi_27, ei_27, H⟩ := W
          have W := i_ia (q := 29) H I_X8_isAsSeen_28 LY_78 rfl
          clear H
          obtain ⟨i_28, bi_28, ei_28, H⟩ := W
          replace H := i_aln (q := 30) H I_X8_isAsSeen_29 rfl rfl
          replace H := i_gfr (q := 33) H I_X8_isAsSeen_30 G_8_31 cn_X8_isAsSeen LY_71 rfl rfl
          replace H := i_icst (x := 2) (q := 34) H I_X8_isAsSeen_33 (by decide) rfl
          replace H := i_iln (q := 35) H I_X8_isAsSeen_34 rfl rfl
          replace H := i_imul (q := 36) H I_X8_isAsSeen_35 rfl
          replace H := i_icst (x := 1) (q := 37) H I_X8_isAsSeen_36 (by decide) rfl
          replace H := i_iadd (q := 38) H I_X8_isAsSeen_37 rfl
          have W := i_ia (q := 39) H I_X8_isAsSeen_38 LY_79 rfl
          clear H
          obtain ⟨i_38, bi_38, ei_38, H⟩ := W
          have W := i_ic_ne (t := 46) (q := 42) H I_X8_isAsSeen_39 (by decide) rfl
          clear H
          rcases W with ⟨c_39, H⟩ | ⟨c_39, H⟩
          · skip
            replace H := i_icst (x := 0) (q := 47) H I_X8_isAsSeen_46 (by decide) rfl
            replace H := i_isn (q := 48) H I_X8_isAsSeen_47 rfl rfl
            replace H := i_inc (q := 51) H I_X8_isAsSeen_48 rfl rfl rfl
            replace H := i_goto (q := 4) H I_X8_isAsSeen_51 (by decide)
            exact absurd rfl c_13
          · skip
            replace H := i_icst (x := 1) (q := 43) H I_X8_isAsSeen_42 (by decide) rfl
            replace H := i_goto (q := 47) H I_X8_isAsSeen_43 (by decide)
            replace H := i_isn (q := 48) H I_X8_isAsSeen_47 rfl rfl
            replace H := i_inc (q := 51) H I_X8_isAsSeen_48 rfl rfl rfl
            replace H := i_goto (q := 4) H I_X8_isAsSeen_51 (by decide)
            exact absurd rfl c_13
    | true =>
      replace H := i_iln (q := 5) H I_X8_isAsSeen_4 rfl rfl
      replace H := i_aln (q := 6) H I_X8_isAsSeen_5 rfl rfl
      replace H := i_gfi (q := 9) H I_X8_isAsSeen_6 G_8_134 cn_X8_isAsSeen LY_71 rfl rfl
      have W := i_ic_ge (t := 54) (q := 12) H I_X8_isAsSeen_9 (by decide) rfl
      clear H
      rcases W with ⟨c_9, H⟩ | ⟨c_9, H⟩
      · exfalso
        rw [hS.2.1] at c_9
        exact c_9 ((zofn_lt (by omega) (by omega)).mpr (by omega))
      · skip
        replace H := i_iln (q := 13) H I_X8_isAsSeen_12 rfl rfl
        have W := i_if_eq (t := 46) (q := 16) H I_X8_isAsSeen_13 (by decide) rfl
        clear H
        rcases W with ⟨c_13, H⟩ | ⟨c_13, H⟩
        · skip
          replace H := i_icst (x := 0) (q := 47) H I_X8_isAsSeen_46 (by decide) rfl
          replace H := i_isn (q := 48) H I_X8_isAsSeen_47 rfl rfl
          replace H := i_inc (q := 51) H I_X8_isAsSeen_48 rfl rfl rfl
          replace H := i_goto (q := 4) H I_X8_isAsSeen_51 (by decide)
          exact absurd c_13 (by decide)
        · skip
          replace H := i_aln (q := 17) H I_X8_isAsSeen_16 rfl rfl
          replace H := i_gfr (q := 20) H I_X8_isAsSeen_17 G_8_28 cn_X8_isAsSeen LY_71 rfl rfl
          replace H := i_aln (q := 21) H I_X8_isAsSeen_20 rfl rfl
          replace H := i_gfr (q := 24) H I_X8_isAsSeen_21 G_8_31 cn_X8_isAsSeen LY_71 rfl rfl
          replace H := i_icst (x := 2) (q := 25) H I_X8_isAsSeen_24 (by decide) rfl
          replace H := i_iln (q := 26) H I_X8_isAsSeen_25 rfl rfl
          replace H := i_imul (q := 27) H I_X8_isAsSeen_26 rfl
          have W := i_ia (q := 28) H I_X8_isAsSeen_27 LY_79 rfl
          clear H
          obtain ⟨i_27, bi_27, ei_27, H⟩ := W
          have W := i_ia (q := 29) H I_X8_isAsSeen_28 LY_78 rfl
          clear H
          obtain ⟨i_28, bi_28, ei_28, H⟩ := W
          replace H := i_aln (q := 30) H I_X8_isAsSeen_29 rfl rfl
          replace H := i_gfr (q := 33) H I_X8_isAsSeen_30 G_8_31 cn_X8_isAsSeen LY_71 rfl rfl
          replace H := i_icst (x := 2) (q := 34) H I_X8_isAsSeen_33 (by decide) rfl
          replace H := i_iln (q := 35) H I_X8_isAsSeen_34 rfl rfl
          replace H := i_imul (q := 36) H I_X8_isAsSeen_35 rfl
          replace H := i_icst (x := 1) (q := 37) H I_X8_isAsSeen_36 (by decide) rfl
          replace H := i_iadd (q := 38) H I_X8_isAsSeen_37 rfl
          have W := i_ia (q := 39) H I_X8_isAsSeen_38 LY_79 rfl
          clear H
          obtain ⟨i_38, bi_38, ei_38, H⟩ := W
          have W := i_ic_ne (t := 46) (q := 42) H I_X8_isAsSeen_39 (by decide) rfl
          clear H
          rcases W with ⟨c_39, H⟩ | ⟨c_39, H⟩
          · skip
            replace H := i_icst (x := 0) (q := 47) H I_X8_isAsSeen_46 (by decide) rfl
            replace H := i_isn (q := 48) H I_X8_isAsSeen_47 rfl rfl
            replace H := i_inc (q := 51) H I_X8_isAsSeen_48 rfl rfl rfl
            replace H := i_goto (q := 4) H I_X8_isAsSeen_51 (by decide)
            have x1 : i_27 = 2 * i := (zofn (by rw [Int32.ofNat_mul]; exact ei_27) (by omega) (by omega)).symm
            subst x1
            have x2 : i_38 = 2 * i + 1 := (zofn (by rw [Int32.ofNat_add, Int32.ofNat_mul]; exact ei_38) (by omega) (by omega)).symm
            subst x2
            obtain ⟨k1, k2⟩ := hS.2.2 i (by omega)
            rw [k1] at ei_28
            have e3 : (sa i).toNatClampNeg = i_28 := by rw [ei_28, Int32.toNatClampNeg_ofNat_of_lt (by omega)]
            rw [k2, hE i_28 bi_28] at c_39
            replace H : zE none d zm_X8_isAsSeen 4 [.ref 71, .int (if false = true then 1 else 0), .int (Int32.ofNat (i + 1))] [] m r h' := by
              rw [← zofn_s]
              exact H
            have h := ih (i + 1) false d r h' (by omega) H
            rw [gFt, e3, decide_eq_false c_39, Bool.false_and, Bool.and_false]
            rw [Bool.false_and] at h
            exact h
          · skip
            replace H := i_icst (x := 1) (q := 43) H I_X8_isAsSeen_42 (by decide) rfl
            replace H := i_goto (q := 47) H I_X8_isAsSeen_43 (by decide)
            replace H := i_isn (q := 48) H I_X8_isAsSeen_47 rfl rfl
            replace H := i_inc (q := 51) H I_X8_isAsSeen_48 rfl rfl rfl
            replace H := i_goto (q := 4) H I_X8_isAsSeen_51 (by decide)
            have x1 : i_27 = 2 * i := (zofn (by rw [Int32.ofNat_mul]; exact ei_27) (by omega) (by omega)).symm
            subst x1
            have x2 : i_38 = 2 * i + 1 := (zofn (by rw [Int32.ofNat_add, Int32.ofNat_mul]; exact ei_38) (by omega) (by omega)).symm
            subst x2
            obtain ⟨k1, k2⟩ := hS.2.2 i (by omega)
            rw [k1] at ei_28
            have e3 : (sa i).toNatClampNeg = i_28 := by rw [ei_28, Int32.toNatClampNeg_ofNat_of_lt (by omega)]
            rw [k2, hE i_28 bi_28] at c_39
            replace H : zE none d zm_X8_isAsSeen 4 [.ref 71, .int (if true = true then 1 else 0), .int (Int32.ofNat (i + 1))] [] m r h' := by
              rw [← zofn_s]
              exact H
            have h := ih (i + 1) true d r h' (by omega) H
            rw [gFt, e3, decide_eq_true c_39, Bool.true_and]
            exact h
theorem t_X8_isAsSeen {d : Nat} {m : zM} {r : Option Value} {h' : zHp} {s : Nat} {E sa sw : Nat → Int32} (hS : rS m s sa sw) (hE : ∀ i, i < 8 → m 78 i = E i) (H : zE none d zm_X8_isAsSeen 0 [.ref 71, .null, .null] [] m r h') : r = some (.int (if gFt E sa sw s 0 = true then 1 else 0)) ∧ h' = zhp m := by
  replace H := i_icst (x := 1) (q := 1) H I_X8_isAsSeen_0 (by decide) rfl
  replace H := i_isn (q := 2) H I_X8_isAsSeen_1 rfl rfl
  replace H := i_icst (x := 0) (q := 3) H I_X8_isAsSeen_2 (by decide) rfl
  replace H := i_isn (q := 4) H I_X8_isAsSeen_3 rfl rfl
  exact iz_loop hS hE s 0 true d r h' (by omega) H
def gSf (c : Nat) (g sa sw : Nat → Int32) (s i : Nat) : Bool := gFt (gPl c (gset g 16 (Int32.ofNat i - 1))).2.2.2.2 sa sw s 0
def gSk (f : Nat → Bool) : Nat → Nat → Int32 → Int32
  | 0, _, b => b
  | j + 1, i, b => if f i = true then gSk f j (i + 1) (b ||| (1 <<< (Int32.ofNat i &&& 31))) else gSk f j (i + 1) b
theorem sk_7 {c s : Nat} {g sa sw : Nat → Int32} (hg : gok g c) : ∀ (j i : Nat) (b : Int32) (d : Nat) (r : Option Value) (h' : zHp) (m : zM), i + j = 10 → LV m 11 c g → cS m s sa sw → zE none d zm_X7_slacks 4 [.ref 0, .int b, .int (Int32.ofNat i)] [] m r h' → r = some (.int (gSk (gSf c g sa sw s) j i b)) := by
  intro j
  induction j with
  | zero =>
    intro i b d r h' m hj hL hS H
    replace H := i_iln (q := 5) H I_X7_slacks_4 rfl rfl
    replace H := i_bip (x := 9) (q := 7) H I_X7_slacks_5 (by decide) rfl
    have W := i_ic_gt (t := 41) (q := 10) H I_X7_slacks_7 (by decide) rfl
    clear H
    rcases W with ⟨c_7, H⟩ | ⟨c_7, H⟩
    · skip
      replace H := i_iln (q := 42) H I_X7_slacks_41 rfl rfl
      obtain ⟨hr, hh⟩ := i_ir H I_X7_slacks_42
      exact hr
    · exfalso
      exact c_7 ((zofn_lt (i := 9) (by decide) (by omega)).mpr (by omega))
  | succ j ih =>
    intro i b d r h' m hj hL hS H
    replace H := i_iln (q := 5) H I_X7_slacks_4 rfl rfl
    replace H := i_bip (x := 9) (q := 7) H I_X7_slacks_5 (by decide) rfl
    have W := i_ic_gt (t := 41) (q := 10) H I_X7_slacks_7 (by decide) rfl
    clear H
    rcases W with ⟨c_7, H⟩ | ⟨c_7, H⟩
    · exfalso
      exact absurd ((zofn_lt (i := 9) (by decide) (by omega)).mp c_7) (by omega)
    · skip
      replace H := i_aln (q := 11) H I_X7_slacks_10 rfl rfl
      replace H := i_iln (q := 12) H I_X7_slacks_11 rfl rfl
      have W := i_cv1 0 (q := 15) H I_X7_slacks_12 K_7_214 Zm_91 rfl rfl
      clear H
      obtain ⟨r1, h1, Hc, K1, K2⟩ := W
      obtain ⟨M_12, e1, e2, F_12⟩ := t_X7_rehearseSlack hL hg Hc
      have H := K2 _ e1 e2
      clear e1 e2 Hc K1 K2
      replace H := i_aln (q := 16) H I_X7_slacks_15 rfl rfl
      replace H := i_gfr (q := 19) H I_X7_slacks_16 G_7_40 cn_X7_slacks LY_0 rfl rfl
      replace H := i_aln (q := 20) H I_X7_slacks_19 rfl rfl
      replace H := i_gfr (q := 23) H I_X7_slacks_20 G_7_26 cn_X7_slacks LY_0 rfl rfl
      have W := i_cv1 1 (q := 26) H I_X7_slacks_23 K_7_243 Zm_60 rfl rfl
      clear H
      obtain ⟨r1, h1, Hc, K1, K2⟩ := W
      obtain ⟨e1, e2⟩ := t_X6_fits (cS_f hS (fun a b h1 h2 => F_12.2 a b (by omega))) F_12.1.2.2.2.2 Hc
      have H := K1 _ _ e1 e2
      clear e1 e2 Hc K1 K2
      have W := i_if_eq (t := 35) (q := 29) H I_X7_slacks_26 (by decide) rfl
      clear H
      rcases W with ⟨c_26, H⟩ | ⟨c_26, H⟩
      · skip
        replace H := i_inc (q := 38) H I_X7_slacks_35 rfl rfl rfl
        replace H := i_goto (q := 4) H I_X7_slacks_38 (by decide)
        have hf : ¬ gSf c g sa sw s i = true := zif0 c_26
        replace H : zE none d zm_X7_slacks 4 [.ref 0, .int b, .int (Int32.ofNat (i + 1))] [] M_12 r h' := by
          rw [← zofn_s]
          exact H
        rw [gSk, if_neg hf]
        exact ih (i + 1) b d r h' M_12 (by omega) (LV_f hL (fun a b h1 h2 => F_12.2 a b (by omega))) (cS_f hS (fun a b h1 h2 => F_12.2 a b (by omega))) H
      · skip
        replace H := i_iln (q := 30) H I_X7_slacks_29 rfl rfl
        replace H := i_icst (x := 1) (q := 31) H I_X7_slacks_30 (by decide) rfl
        replace H := i_iln (q := 32) H I_X7_slacks_31 rfl rfl
        replace H := i_ishl (q := 33) H I_X7_slacks_32 rfl
        replace H := i_ior (q := 34) H I_X7_slacks_33 rfl
        replace H := i_isn (q := 35) H I_X7_slacks_34 rfl rfl
        replace H := i_inc (q := 38) H I_X7_slacks_35 rfl rfl rfl
        replace H := i_goto (q := 4) H I_X7_slacks_38 (by decide)
        have hf : gSf c g sa sw s i = true := zif1 c_26
        replace H : zE none d zm_X7_slacks 4 [.ref 0, .int (b ||| (1 <<< (Int32.ofNat i &&& 31))), .int (Int32.ofNat (i + 1))] [] M_12 r h' := by
          rw [← zofn_s]
          exact H
        rw [gSk, if_pos hf]
        exact ih (i + 1) (b ||| (1 <<< (Int32.ofNat i &&& 31))) d r h' M_12 (by omega) (LV_f hL (fun a b h1 h2 => F_12.2 a b (by omega))) (cS_f hS (fun a b h1 h2 => F_12.2 a b (by omega))) H
theorem t_X7_slacks {d : Nat} {m : zM} {r : Option Value} {h' : zHp} {c s : Nat} {g sa sw : Nat → Int32} (hL : LV m 11 c g) (hg : gok g c) (hS : cS m s sa sw) (H : zE none d zm_X7_slacks 0 [.ref 0, .null, .null] [] m r h') : r = some (.int (gSk (gSf c g sa sw s) 10 0 0)) := by
  replace H := i_icst (x := 0) (q := 1) H I_X7_slacks_0 (by decide) rfl
  replace H := i_isn (q := 2) H I_X7_slacks_1 rfl rfl
  replace H := i_icst (x := 0) (q := 3) H I_X7_slacks_2 (by decide) rfl
  replace H := i_isn (q := 4) H I_X7_slacks_3 rfl rfl
  exact sk_7 hg 10 0 0 d r h' m rfl hL hS H
theorem sk_8 {c a : Nat} {g : Nat → Int32} (hg : gok g c) (hpl : gpl g) (ha : g 26 = Int32.ofNat a) (ha8 : a ≤ 8) {s : Nat} {sa sw : Nat → Int32} : ∀ (j i : Nat) (b : Int32) (d : Nat) (r : Option Value) (h' : zHp) (m : zM), i + j = 10 → PG m 0 g → m 71 2 = Int32.ofNat c → zMk m → rS m s sa sw → zE none d zm_X8_slacks 4 [.ref 71, .int b, .int (Int32.ofNat i)] [] m r h' → r = some (.int (gSk (gSf c g sa sw s) j i b)) := by
  intro j
  induction j with
  | zero =>
    intro i b d r h' m hj hP hc hM hS H
    replace H := i_iln (q := 5) H I_X8_slacks_4 rfl rfl
    replace H := i_bip (x := 10) (q := 7) H I_X8_slacks_5 (by decide) rfl
    have W := i_ic_ge (t := 55) (q := 10) H I_X8_slacks_7 (by decide) rfl
    clear H
    rcases W with ⟨c_7, H⟩ | ⟨c_7, H⟩
    · skip
      replace H := i_iln (q := 56) H I_X8_slacks_55 rfl rfl
      obtain ⟨hr, hh⟩ := i_ir H I_X8_slacks_56
      exact hr
    · exfalso
      exact absurd ((zofn_lt (j := 10) (by omega) (by decide)).mp c_7) (by omega)
  | succ j ih =>
    intro i b d r h' m hj hP hc hM hS H
    replace H := i_iln (q := 5) H I_X8_slacks_4 rfl rfl
    replace H := i_bip (x := 10) (q := 7) H I_X8_slacks_5 (by decide) rfl
    have W := i_ic_ge (t := 55) (q := 10) H I_X8_slacks_7 (by decide) rfl
    clear H
    rcases W with ⟨c_7, H⟩ | ⟨c_7, H⟩
    · exfalso
      exact c_7 ((zofn_lt (j := 10) (by omega) (by decide)).mpr (by omega))
    · skip
      replace H := i_aln (q := 11) H I_X8_slacks_10 rfl rfl
      replace H := i_icst (x := 0) (q := 12) H I_X8_slacks_11 (by decide) rfl
      replace H := i_bip (x := 108) (q := 14) H I_X8_slacks_12 (by decide) rfl
      have W := i_cv2 1 (q := 17) H I_X8_slacks_14 K_8_188 Zm_147 rfl rfl
      clear H
      obtain ⟨r1, h1, Hc, K1, K2⟩ := W
      obtain ⟨M_14, e1, e2, F_14⟩ := t_X8_copies (f := 0) (t := 108) rfl rfl (by omega) (by omega) (by omega) Hc
      have H := K2 _ e1 e2
      clear e1 e2 Hc K1 K2
      replace H := i_aln (q := 18) H I_X8_slacks_17 rfl rfl
      replace H := i_gfr (q := 21) H I_X8_slacks_18 G_8_7 cn_X8_slacks LY_71 rfl rfl
      replace H := i_bip (x := 124) (q := 23) H I_X8_slacks_21 (by decide) rfl
      replace H := i_iln (q := 24) H I_X8_slacks_23 rfl rfl
      replace H := i_icst (x := 1) (q := 25) H I_X8_slacks_24 (by decide) rfl
      replace H := i_isub (q := 26) H I_X8_slacks_25 rfl
      have W := i_iast (q := 27) H I_X8_slacks_26 LY_72 rfl
      clear H
      obtain ⟨i_26, bi_26, ei_26, H⟩ := W
      replace H := i_aln (q := 28) H I_X8_slacks_27 rfl rfl
      replace H := i_icst (x := 0) (q := 29) H I_X8_slacks_28 (by decide) rfl
      have W := i_cv1 2 (q := 32) H I_X8_slacks_29 K_8_192 Zm_148 rfl rfl
      clear H
      obtain ⟨r1, h1, Hc, K1, K2⟩ := W
      have e26 : i_26 = 108 + 16 := (zofn (i := 124) ei_26 (by decide) (by omega)).symm
      subst e26
      obtain ⟨M_29, e1, e2, F_29⟩ := t_goes0 (PG_up (PG_cp hP F_14) (by omega)) (gok_s hg (by omega) (by omega)) ((gset_n (by omega)).trans ha) ha8 (gpl_s hpl (by omega)) ((zup_n (by omega)).trans ((F_14.2 71 2 (by omega)).trans hc)) (zMk_f hM (fun b => (zup_n (by omega)).trans (F_14.2 73 b (by omega)))) Hc
      have H := K2 _ e1 e2
      clear e1 e2 Hc K1 K2
      replace H := i_iln (q := 33) H I_X8_slacks_32 rfl rfl
      replace H := i_aln (q := 34) H I_X8_slacks_33 rfl rfl
      have W := i_cv0 2 (q := 37) H I_X8_slacks_34 K_8_232 Zm_169 rfl rfl
      clear H
      obtain ⟨r1, h1, Hc, K1, K2⟩ := W
      obtain ⟨e1, e2⟩ := t_X8_isAsSeen (rS_f hS ((F_29.2 71 23 (by omega) (by omega) (by omega)).trans ((zup_n (by omega)).trans (F_14.2 71 23 (by omega)))) (fun b => (F_29.2 79 b (by omega) (by omega) (by omega)).trans ((zup_n (by omega)).trans (F_14.2 79 b (by omega))))) F_29.1.2.2.2.2 Hc
      have H := K1 _ _ e1 e2
      clear e1 e2 Hc K1 K2
      have W := i_if_eq (t := 46) (q := 40) H I_X8_slacks_37 (by decide) rfl
      clear H
      rcases W with ⟨c_37, H⟩ | ⟨c_37, H⟩
      · skip
        replace H := i_icst (x := 0) (q := 47) H I_X8_slacks_46 (by decide) rfl
        replace H := i_ior (q := 48) H I_X8_slacks_47 rfl
        replace H := i_isn (q := 49) H I_X8_slacks_48 rfl rfl
        replace H := i_inc (q := 52) H I_X8_slacks_49 rfl rfl rfl
        replace H := i_goto (q := 4) H I_X8_slacks_52 (by decide)
        have hf : ¬ gSf c g sa sw s i = true := zif0 c_37
        rw [Int32.or_zero] at H
        replace H : zE none d zm_X8_slacks 4 [.ref 71, .int b, .int (Int32.ofNat (i + 1))] [] M_29 r h' := by
          rw [← zofn_s]
          exact H
        rw [gSk, if_neg hf]
        exact ih (i + 1) b d r h' M_29 (by omega) ⟨hP.1, fun j hj => ((F_29.2 72 (0 + j) (by omega) (by omega) (by omega)).trans ((zup_n (by omega)).trans (F_14.2 72 (0 + j) (by omega)))).trans (hP.2 j hj)⟩ (((F_29.2 71 2 (by omega) (by omega) (by omega)).trans ((zup_n (by omega)).trans (F_14.2 71 2 (by omega)))).trans hc) (zMk_f hM (fun b => (F_29.2 73 b (by omega) (by omega) (by omega)).trans ((zup_n (by omega)).trans (F_14.2 73 b (by omega))))) (rS_f hS ((F_29.2 71 23 (by omega) (by omega) (by omega)).trans ((zup_n (by omega)).trans (F_14.2 71 23 (by omega)))) (fun b => (F_29.2 79 b (by omega) (by omega) (by omega)).trans ((zup_n (by omega)).trans (F_14.2 79 b (by omega))))) H
      · skip
        replace H := i_icst (x := 1) (q := 41) H I_X8_slacks_40 (by decide) rfl
        replace H := i_iln (q := 42) H I_X8_slacks_41 rfl rfl
        replace H := i_ishl (q := 43) H I_X8_slacks_42 rfl
        replace H := i_goto (q := 47) H I_X8_slacks_43 (by decide)
        replace H := i_ior (q := 48) H I_X8_slacks_47 rfl
        replace H := i_isn (q := 49) H I_X8_slacks_48 rfl rfl
        replace H := i_inc (q := 52) H I_X8_slacks_49 rfl rfl rfl
        replace H := i_goto (q := 4) H I_X8_slacks_52 (by decide)
        have hf : gSf c g sa sw s i = true := zif1 c_37
        replace H : zE none d zm_X8_slacks 4 [.ref 71, .int (b ||| (1 <<< (Int32.ofNat i &&& 31))), .int (Int32.ofNat (i + 1))] [] M_29 r h' := by
          rw [← zofn_s]
          exact H
        rw [gSk, if_pos hf]
        exact ih (i + 1) (b ||| (1 <<< (Int32.ofNat i &&& 31))) d r h' M_29 (by omega) ⟨hP.1, fun j hj => ((F_29.2 72 (0 + j) (by omega) (by omega) (by omega)).trans ((zup_n (by omega)).trans (F_14.2 72 (0 + j) (by omega)))).trans (hP.2 j hj)⟩ (((F_29.2 71 2 (by omega) (by omega) (by omega)).trans ((zup_n (by omega)).trans (F_14.2 71 2 (by omega)))).trans hc) (zMk_f hM (fun b => (F_29.2 73 b (by omega) (by omega) (by omega)).trans ((zup_n (by omega)).trans (F_14.2 73 b (by omega))))) (rS_f hS ((F_29.2 71 23 (by omega) (by omega) (by omega)).trans ((zup_n (by omega)).trans (F_14.2 71 23 (by omega)))) (fun b => (F_29.2 79 b (by omega) (by omega) (by omega)).trans ((zup_n (by omega)).trans (F_14.2 79 b (by omega))))) H
theorem t_X8_slacks {d : Nat} {m : zM} {r : Option Value} {h' : zHp} {s : Nat} {sa sw : Nat → Int32} {c a : Nat} {g : Nat → Int32} (hP : PG m 0 g) (hg : gok g c) (hpl : gpl g) (ha : g 26 = Int32.ofNat a) (ha8 : a ≤ 8) (hc : m 71 2 = Int32.ofNat c) (hM : zMk m) (hS : rS m s sa sw) (H : zE none d zm_X8_slacks 0 [.ref 71, .null, .null] [] m r h') : r = some (.int (gSk (gSf c g sa sw s) 10 0 0)) := by
  replace H := i_icst (x := 0) (q := 1) H I_X8_slacks_0 (by decide) rfl
  replace H := i_isn (q := 2) H I_X8_slacks_1 rfl rfl
  replace H := i_icst (x := 0) (q := 3) H I_X8_slacks_2 (by decide) rfl
  replace H := i_isn (q := 4) H I_X8_slacks_3 rfl rfl
  exact sk_8 hg hpl ha ha8 10 0 0 d r h' m rfl hP hc hM hS H
theorem pt_slacks {m : zM} {r : Option Value} {h' : zHp} (ht : zTy m) (hR : RS m) (H : zEv none 19 zm_X7_slacks (0, lv_args 0 [.ref 0], [], zhp m) r h') : ∃ m1 v, r = some (.int v) ∧ h' = zhp m1 ∧ zTy m1 ∧ ∀ r2 h2, zEv none 19 zm_X8_slacks (0, lv_args 0 [.ref 71], [], zhp m1) r2 h2 → ∃ m2 v2, r2 = some (.int v2) ∧ h2 = zhp m2 ∧ zTy m2 ∧ RS m2 ∧ v = v2 := by
  obtain ⟨hR, hS⟩ := hR
  have hR0 := hR
  have hS0 := hS
  obtain ⟨s, s1, s2, s3, s4⟩ := hS
  obtain ⟨⟨_, hM, _, _, c, c1, ⟨hL, hb⟩, _⟩, _⟩ := hR
  have hg := gok_11 ht hL
  have hpl := gpl_0 ht
  obtain ⟨a, a6, a7, _⟩ := hL.2.2.2.2.2
  obtain ⟨m1, v, a1, a2, a3, a4⟩ := e_X7_slacks ht H
  refine ⟨m1, v, a1, a2, a3, fun r2 h2 H2 => ?_⟩
  obtain ⟨m2, v2, b1, b2, b3, b4⟩ := e_X8_slacks a3 H2
  refine ⟨m2, v2, b1, b2, b3, ⟨RF_f (RF_f hR0 a4 (by decide +kernel)) b4 (by decide +kernel), SV_f (SV_f hS0 a4 (by decide +kernel)) b4 (by decide +kernel)⟩, ?_⟩
  have hP1 : PG m1 0 (pgf m 0) := ⟨by omega, fun j hj => a4 72 (0 + j) (zpl_r LY_72 (by omega)) (ymd_c (by decide +kernel) _)⟩
  have hM1 : zMk m1 := ⟨(a4 73 0 ⟨_, LY_73, rfl⟩ (by decide +kernel)).trans hM.1, (a4 73 1 ⟨_, LY_73, rfl⟩ (by decide +kernel)).trans hM.2.1, (a4 73 2 ⟨_, LY_73, rfl⟩ (by decide +kernel)).trans hM.2.2.1, (a4 73 3 ⟨_, LY_73, rfl⟩ (by decide +kernel)).trans hM.2.2.2⟩
  have hcS : cS m s (m 41) (m 42) := ⟨s1, s2, fun _ _ => ⟨rfl, rfl⟩⟩
  have hrS : rS m1 s (m 41) (m 42) := ⟨s1, (a4 71 23 ⟨_, LY_71, rfl⟩ (by decide +kernel)).trans s3, fun k hk => ⟨(a4 79 (2 * k) (zpl_r LY_79 (by omega)) (ymd_c (by decide +kernel) _)).trans (s4 k hk).1.symm, (a4 79 (2 * k + 1) (zpl_r LY_79 (by omega)) (ymd_c (by decide +kernel) _)).trans (s4 k hk).2.symm⟩⟩
  have hc1 : m1 71 2 = Int32.ofNat c := (a4 71 2 ⟨_, LY_71, rfl⟩ (by decide +kernel)).trans c1
  have k1 := t_X7_slacks hL hg hcS (zE_of 2 rfl H)
  have k2 := t_X8_slacks hP1 hg hpl a7 a6 hc1 hM1 hrS (zE_of 2 rfl H2)
  rw [a1] at k1
  rw [b1] at k2
  cases k1
  cases k2
  rfl
