section
/-! what is seen -/
theorem It_X6_fits : zm_X6_fits.2.2.2.2.2 = zt_X6_fits := by
  unfold zm_X6_fits
  rfl
theorem It_X7_slacks : zm_X7_slacks.2.2.2.2.2 = zt_X7_slacks := by
  unfold zm_X7_slacks
  rfl
theorem It_X8_isAsSeen : zm_X8_isAsSeen.2.2.2.2.2 = zt_X8_isAsSeen := by
  unfold zm_X8_isAsSeen
  rfl
theorem It_X8_slacks : zm_X8_slacks.2.2.2.2.2 = zt_X8_slacks := by
  unfold zm_X8_slacks
  rfl
theorem I_X6_fits_0 : zin zm_X6_fits.2.2.2.2.2 0 = some (.iconst 0, 1) := by rw [It_X6_fits]; rfl
theorem I_X6_fits_1 : zin zm_X6_fits.2.2.2.2.2 1 = some (.istore_n 2, 1) := by rw [It_X6_fits]; rfl
theorem I_X6_fits_2 : zin zm_X6_fits.2.2.2.2.2 2 = some (.iload_n 2, 1) := by rw [It_X6_fits]; rfl
theorem I_X6_fits_3 : zin zm_X6_fits.2.2.2.2.2 3 = some (.aload_n 0, 1) := by rw [It_X6_fits]; rfl
theorem I_X6_fits_4 : zin zm_X6_fits.2.2.2.2.2 4 = some (.getfield 21, 3) := by rw [It_X6_fits]; rfl
theorem I_X6_fits_7 : zin zm_X6_fits.2.2.2.2.2 7 = some (.if_icmp .ge 31, 3) := by rw [It_X6_fits]; rfl
theorem I_X6_fits_10 : zin zm_X6_fits.2.2.2.2.2 10 = some (.aload_n 1, 1) := by rw [It_X6_fits]; rfl
theorem I_X6_fits_11 : zin zm_X6_fits.2.2.2.2.2 11 = some (.getfield 25, 3) := by rw [It_X6_fits]; rfl
theorem I_X6_fits_14 : zin zm_X6_fits.2.2.2.2.2 14 = some (.aload_n 0, 1) := by rw [It_X6_fits]; rfl
theorem I_X6_fits_15 : zin zm_X6_fits.2.2.2.2.2 15 = some (.getfield 9, 3) := by rw [It_X6_fits]; rfl
theorem I_X6_fits_18 : zin zm_X6_fits.2.2.2.2.2 18 = some (.iload_n 2, 1) := by rw [It_X6_fits]; rfl
theorem I_X6_fits_19 : zin zm_X6_fits.2.2.2.2.2 19 = some (.iaload, 1) := by rw [It_X6_fits]; rfl
theorem I_X6_fits_20 : zin zm_X6_fits.2.2.2.2.2 20 = some (.iaload, 1) := by rw [It_X6_fits]; rfl
theorem I_X6_fits_21 : zin zm_X6_fits.2.2.2.2.2 21 = some (.aload_n 0, 1) := by rw [It_X6_fits]; rfl
theorem I_X6_fits_22 : zin zm_X6_fits.2.2.2.2.2 22 = some (.getfield 15, 3) := by rw [It_X6_fits]; rfl
theorem I_X6_fits_25 : zin zm_X6_fits.2.2.2.2.2 25 = some (.iload_n 2, 1) := by rw [It_X6_fits]; rfl
theorem I_X6_fits_26 : zin zm_X6_fits.2.2.2.2.2 26 = some (.iaload, 1) := by rw [It_X6_fits]; rfl
theorem I_X6_fits_27 : zin zm_X6_fits.2.2.2.2.2 27 = some (.if_icmp .eq 5, 3) := by rw [It_X6_fits]; rfl
theorem I_X6_fits_30 : zin zm_X6_fits.2.2.2.2.2 30 = some (.iconst 0, 1) := by rw [It_X6_fits]; rfl
theorem I_X6_fits_31 : zin zm_X6_fits.2.2.2.2.2 31 = some (.ireturn, 1) := by rw [It_X6_fits]; rfl
theorem I_X6_fits_32 : zin zm_X6_fits.2.2.2.2.2 32 = some (.iinc 2 1, 3) := by rw [It_X6_fits]; rfl
theorem I_X6_fits_35 : zin zm_X6_fits.2.2.2.2.2 35 = some (.goto (-33), 3) := by rw [It_X6_fits]; rfl
theorem I_X6_fits_38 : zin zm_X6_fits.2.2.2.2.2 38 = some (.iconst 1, 1) := by rw [It_X6_fits]; rfl
theorem I_X6_fits_39 : zin zm_X6_fits.2.2.2.2.2 39 = some (.ireturn, 1) := by rw [It_X6_fits]; rfl
theorem I_X7_slacks_0 : zin zm_X7_slacks.2.2.2.2.2 0 = some (.iconst 0, 1) := by rw [It_X7_slacks]; rfl
theorem I_X7_slacks_1 : zin zm_X7_slacks.2.2.2.2.2 1 = some (.istore_n 1, 1) := by rw [It_X7_slacks]; rfl
theorem I_X7_slacks_2 : zin zm_X7_slacks.2.2.2.2.2 2 = some (.iconst 0, 1) := by rw [It_X7_slacks]; rfl
theorem I_X7_slacks_3 : zin zm_X7_slacks.2.2.2.2.2 3 = some (.istore_n 2, 1) := by rw [It_X7_slacks]; rfl
theorem I_X7_slacks_4 : zin zm_X7_slacks.2.2.2.2.2 4 = some (.iload_n 2, 1) := by rw [It_X7_slacks]; rfl
theorem I_X7_slacks_5 : zin zm_X7_slacks.2.2.2.2.2 5 = some (.bipush 9, 2) := by rw [It_X7_slacks]; rfl
theorem I_X7_slacks_7 : zin zm_X7_slacks.2.2.2.2.2 7 = some (.if_icmp .gt 34, 3) := by rw [It_X7_slacks]; rfl
theorem I_X7_slacks_10 : zin zm_X7_slacks.2.2.2.2.2 10 = some (.aload_n 0, 1) := by rw [It_X7_slacks]; rfl
theorem I_X7_slacks_11 : zin zm_X7_slacks.2.2.2.2.2 11 = some (.iload_n 2, 1) := by rw [It_X7_slacks]; rfl
theorem I_X7_slacks_12 : zin zm_X7_slacks.2.2.2.2.2 12 = some (.invokevirtual 214, 3) := by rw [It_X7_slacks]; rfl
theorem I_X7_slacks_15 : zin zm_X7_slacks.2.2.2.2.2 15 = some (.aload_n 0, 1) := by rw [It_X7_slacks]; rfl
theorem I_X7_slacks_16 : zin zm_X7_slacks.2.2.2.2.2 16 = some (.getfield 40, 3) := by rw [It_X7_slacks]; rfl
theorem I_X7_slacks_19 : zin zm_X7_slacks.2.2.2.2.2 19 = some (.aload_n 0, 1) := by rw [It_X7_slacks]; rfl
theorem I_X7_slacks_20 : zin zm_X7_slacks.2.2.2.2.2 20 = some (.getfield 26, 3) := by rw [It_X7_slacks]; rfl
theorem I_X7_slacks_23 : zin zm_X7_slacks.2.2.2.2.2 23 = some (.invokevirtual 243, 3) := by rw [It_X7_slacks]; rfl
theorem I_X7_slacks_26 : zin zm_X7_slacks.2.2.2.2.2 26 = some (.ifCond .eq 9, 3) := by rw [It_X7_slacks]; rfl
theorem I_X7_slacks_29 : zin zm_X7_slacks.2.2.2.2.2 29 = some (.iload_n 1, 1) := by rw [It_X7_slacks]; rfl
theorem I_X7_slacks_30 : zin zm_X7_slacks.2.2.2.2.2 30 = some (.iconst 1, 1) := by rw [It_X7_slacks]; rfl
theorem I_X7_slacks_31 : zin zm_X7_slacks.2.2.2.2.2 31 = some (.iload_n 2, 1) := by rw [It_X7_slacks]; rfl
theorem I_X7_slacks_32 : zin zm_X7_slacks.2.2.2.2.2 32 = some (.ishl, 1) := by rw [It_X7_slacks]; rfl
theorem I_X7_slacks_33 : zin zm_X7_slacks.2.2.2.2.2 33 = some (.ior, 1) := by rw [It_X7_slacks]; rfl
theorem I_X7_slacks_34 : zin zm_X7_slacks.2.2.2.2.2 34 = some (.istore_n 1, 1) := by rw [It_X7_slacks]; rfl
theorem I_X7_slacks_35 : zin zm_X7_slacks.2.2.2.2.2 35 = some (.iinc 2 1, 3) := by rw [It_X7_slacks]; rfl
theorem I_X7_slacks_38 : zin zm_X7_slacks.2.2.2.2.2 38 = some (.goto (-34), 3) := by rw [It_X7_slacks]; rfl
theorem I_X7_slacks_41 : zin zm_X7_slacks.2.2.2.2.2 41 = some (.iload_n 1, 1) := by rw [It_X7_slacks]; rfl
theorem I_X7_slacks_42 : zin zm_X7_slacks.2.2.2.2.2 42 = some (.ireturn, 1) := by rw [It_X7_slacks]; rfl
theorem I_X8_isAsSeen_0 : zin zm_X8_isAsSeen.2.2.2.2.2 0 = some (.iconst 1, 1) := by rw [It_X8_isAsSeen]; rfl
theorem I_X8_isAsSeen_1 : zin zm_X8_isAsSeen.2.2.2.2.2 1 = some (.istore_n 1, 1) := by rw [It_X8_isAsSeen]; rfl
theorem I_X8_isAsSeen_2 : zin zm_X8_isAsSeen.2.2.2.2.2 2 = some (.iconst 0, 1) := by rw [It_X8_isAsSeen]; rfl
theorem I_X8_isAsSeen_3 : zin zm_X8_isAsSeen.2.2.2.2.2 3 = some (.istore_n 2, 1) := by rw [It_X8_isAsSeen]; rfl
theorem I_X8_isAsSeen_4 : zin zm_X8_isAsSeen.2.2.2.2.2 4 = some (.iload_n 2, 1) := by rw [It_X8_isAsSeen]; rfl
theorem I_X8_isAsSeen_5 : zin zm_X8_isAsSeen.2.2.2.2.2 5 = some (.aload_n 0, 1) := by rw [It_X8_isAsSeen]; rfl
theorem I_X8_isAsSeen_6 : zin zm_X8_isAsSeen.2.2.2.2.2 6 = some (.getfield 134, 3) := by rw [It_X8_isAsSeen]; rfl
theorem I_X8_isAsSeen_9 : zin zm_X8_isAsSeen.2.2.2.2.2 9 = some (.if_icmp .ge 45, 3) := by rw [It_X8_isAsSeen]; rfl
theorem I_X8_isAsSeen_12 : zin zm_X8_isAsSeen.2.2.2.2.2 12 = some (.iload_n 1, 1) := by rw [It_X8_isAsSeen]; rfl
theorem I_X8_isAsSeen_13 : zin zm_X8_isAsSeen.2.2.2.2.2 13 = some (.ifCond .eq 33, 3) := by rw [It_X8_isAsSeen]; rfl
theorem I_X8_isAsSeen_16 : zin zm_X8_isAsSeen.2.2.2.2.2 16 = some (.aload_n 0, 1) := by rw [It_X8_isAsSeen]; rfl
theorem I_X8_isAsSeen_17 : zin zm_X8_isAsSeen.2.2.2.2.2 17 = some (.getfield 28, 3) := by rw [It_X8_isAsSeen]; rfl
theorem I_X8_isAsSeen_20 : zin zm_X8_isAsSeen.2.2.2.2.2 20 = some (.aload_n 0, 1) := by rw [It_X8_isAsSeen]; rfl
theorem I_X8_isAsSeen_21 : zin zm_X8_isAsSeen.2.2.2.2.2 21 = some (.getfield 31, 3) := by rw [It_X8_isAsSeen]; rfl
theorem I_X8_isAsSeen_24 : zin zm_X8_isAsSeen.2.2.2.2.2 24 = some (.iconst 2, 1) := by rw [It_X8_isAsSeen]; rfl
theorem I_X8_isAsSeen_25 : zin zm_X8_isAsSeen.2.2.2.2.2 25 = some (.iload_n 2, 1) := by rw [It_X8_isAsSeen]; rfl
theorem I_X8_isAsSeen_26 : zin zm_X8_isAsSeen.2.2.2.2.2 26 = some (.imul, 1) := by rw [It_X8_isAsSeen]; rfl
theorem I_X8_isAsSeen_27 : zin zm_X8_isAsSeen.2.2.2.2.2 27 = some (.iaload, 1) := by rw [It_X8_isAsSeen]; rfl
theorem I_X8_isAsSeen_28 : zin zm_X8_isAsSeen.2.2.2.2.2 28 = some (.iaload, 1) := by rw [It_X8_isAsSeen]; rfl
theorem I_X8_isAsSeen_29 : zin zm_X8_isAsSeen.2.2.2.2.2 29 = some (.aload_n 0, 1) := by rw [It_X8_isAsSeen]; rfl
theorem I_X8_isAsSeen_30 : zin zm_X8_isAsSeen.2.2.2.2.2 30 = some (.getfield 31, 3) := by rw [It_X8_isAsSeen]; rfl
theorem I_X8_isAsSeen_33 : zin zm_X8_isAsSeen.2.2.2.2.2 33 = some (.iconst 2, 1) := by rw [It_X8_isAsSeen]; rfl
theorem I_X8_isAsSeen_34 : zin zm_X8_isAsSeen.2.2.2.2.2 34 = some (.iload_n 2, 1) := by rw [It_X8_isAsSeen]; rfl
theorem I_X8_isAsSeen_35 : zin zm_X8_isAsSeen.2.2.2.2.2 35 = some (.imul, 1) := by rw [It_X8_isAsSeen]; rfl
theorem I_X8_isAsSeen_36 : zin zm_X8_isAsSeen.2.2.2.2.2 36 = some (.iconst 1, 1) := by rw [It_X8_isAsSeen]; rfl
theorem I_X8_isAsSeen_37 : zin zm_X8_isAsSeen.2.2.2.2.2 37 = some (.iadd, 1) := by rw [It_X8_isAsSeen]; rfl
theorem I_X8_isAsSeen_38 : zin zm_X8_isAsSeen.2.2.2.2.2 38 = some (.iaload, 1) := by rw [It_X8_isAsSeen]; rfl
theorem I_X8_isAsSeen_39 : zin zm_X8_isAsSeen.2.2.2.2.2 39 = some (.if_icmp .ne 7, 3) := by rw [It_X8_isAsSeen]; rfl
theorem I_X8_isAsSeen_42 : zin zm_X8_isAsSeen.2.2.2.2.2 42 = some (.iconst 1, 1) := by rw [It_X8_isAsSeen]; rfl
theorem I_X8_isAsSeen_43 : zin zm_X8_isAsSeen.2.2.2.2.2 43 = some (.goto 4, 3) := by rw [It_X8_isAsSeen]; rfl
theorem I_X8_isAsSeen_46 : zin zm_X8_isAsSeen.2.2.2.2.2 46 = some (.iconst 0, 1) := by rw [It_X8_isAsSeen]; rfl
theorem I_X8_isAsSeen_47 : zin zm_X8_isAsSeen.2.2.2.2.2 47 = some (.istore_n 1, 1) := by rw [It_X8_isAsSeen]; rfl
theorem I_X8_isAsSeen_48 : zin zm_X8_isAsSeen.2.2.2.2.2 48 = some (.iinc 2 1, 3) := by rw [It_X8_isAsSeen]; rfl
theorem I_X8_isAsSeen_51 : zin zm_X8_isAsSeen.2.2.2.2.2 51 = some (.goto (-47), 3) := by rw [It_X8_isAsSeen]; rfl
theorem I_X8_isAsSeen_54 : zin zm_X8_isAsSeen.2.2.2.2.2 54 = some (.iload_n 1, 1) := by rw [It_X8_isAsSeen]; rfl
theorem I_X8_isAsSeen_55 : zin zm_X8_isAsSeen.2.2.2.2.2 55 = some (.ireturn, 1) := by rw [It_X8_isAsSeen]; rfl
theorem I_X8_slacks_0 : zin zm_X8_slacks.2.2.2.2.2 0 = some (.iconst 0, 1) := by rw [It_X8_slacks]; rfl
theorem I_X8_slacks_1 : zin zm_X8_slacks.2.2.2.2.2 1 = some (.istore_n 1, 1) := by rw [It_X8_slacks]; rfl
theorem I_X8_slacks_2 : zin zm_X8_slacks.2.2.2.2.2 2 = some (.iconst 0, 1) := by rw [It_X8_slacks]; rfl
theorem I_X8_slacks_3 : zin zm_X8_slacks.2.2.2.2.2 3 = some (.istore_n 2, 1) := by rw [It_X8_slacks]; rfl
theorem I_X8_slacks_4 : zin zm_X8_slacks.2.2.2.2.2 4 = some (.iload_n 2, 1) := by rw [It_X8_slacks]; rfl
theorem I_X8_slacks_5 : zin zm_X8_slacks.2.2.2.2.2 5 = some (.bipush 10, 2) := by rw [It_X8_slacks]; rfl
theorem I_X8_slacks_7 : zin zm_X8_slacks.2.2.2.2.2 7 = some (.if_icmp .ge 48, 3) := by rw [It_X8_slacks]; rfl
theorem I_X8_slacks_10 : zin zm_X8_slacks.2.2.2.2.2 10 = some (.aload_n 0, 1) := by rw [It_X8_slacks]; rfl
theorem I_X8_slacks_11 : zin zm_X8_slacks.2.2.2.2.2 11 = some (.iconst 0, 1) := by rw [It_X8_slacks]; rfl
theorem I_X8_slacks_12 : zin zm_X8_slacks.2.2.2.2.2 12 = some (.bipush 108, 2) := by rw [It_X8_slacks]; rfl
theorem I_X8_slacks_14 : zin zm_X8_slacks.2.2.2.2.2 14 = some (.invokevirtual 188, 3) := by rw [It_X8_slacks]; rfl
theorem I_X8_slacks_17 : zin zm_X8_slacks.2.2.2.2.2 17 = some (.aload_n 0, 1) := by rw [It_X8_slacks]; rfl
theorem I_X8_slacks_18 : zin zm_X8_slacks.2.2.2.2.2 18 = some (.getfield 7, 3) := by rw [It_X8_slacks]; rfl
theorem I_X8_slacks_21 : zin zm_X8_slacks.2.2.2.2.2 21 = some (.bipush 124, 2) := by rw [It_X8_slacks]; rfl
theorem I_X8_slacks_23 : zin zm_X8_slacks.2.2.2.2.2 23 = some (.iload_n 2, 1) := by rw [It_X8_slacks]; rfl
theorem I_X8_slacks_24 : zin zm_X8_slacks.2.2.2.2.2 24 = some (.iconst 1, 1) := by rw [It_X8_slacks]; rfl
theorem I_X8_slacks_25 : zin zm_X8_slacks.2.2.2.2.2 25 = some (.isub, 1) := by rw [It_X8_slacks]; rfl
theorem I_X8_slacks_26 : zin zm_X8_slacks.2.2.2.2.2 26 = some (.iastore, 1) := by rw [It_X8_slacks]; rfl
theorem I_X8_slacks_27 : zin zm_X8_slacks.2.2.2.2.2 27 = some (.aload_n 0, 1) := by rw [It_X8_slacks]; rfl
theorem I_X8_slacks_28 : zin zm_X8_slacks.2.2.2.2.2 28 = some (.iconst 0, 1) := by rw [It_X8_slacks]; rfl
theorem I_X8_slacks_29 : zin zm_X8_slacks.2.2.2.2.2 29 = some (.invokevirtual 192, 3) := by rw [It_X8_slacks]; rfl
theorem I_X8_slacks_32 : zin zm_X8_slacks.2.2.2.2.2 32 = some (.iload_n 1, 1) := by rw [It_X8_slacks]; rfl
theorem I_X8_slacks_33 : zin zm_X8_slacks.2.2.2.2.2 33 = some (.aload_n 0, 1) := by rw [It_X8_slacks]; rfl
theorem I_X8_slacks_34 : zin zm_X8_slacks.2.2.2.2.2 34 = some (.invokevirtual 232, 3) := by rw [It_X8_slacks]; rfl
theorem I_X8_slacks_37 : zin zm_X8_slacks.2.2.2.2.2 37 = some (.ifCond .eq 9, 3) := by rw [It_X8_slacks]; rfl
theorem I_X8_slacks_40 : zin zm_X8_slacks.2.2.2.2.2 40 = some (.iconst 1, 1) := by rw [It_X8_slacks]; rfl
theorem I_X8_slacks_41 : zin zm_X8_slacks.2.2.2.2.2 41 = some (.iload_n 2, 1) := by rw [It_X8_slacks]; rfl
theorem I_X8_slacks_42 : zin zm_X8_slacks.2.2.2.2.2 42 = some (.ishl, 1) := by rw [It_X8_slacks]; rfl
theorem I_X8_slacks_43 : zin zm_X8_slacks.2.2.2.2.2 43 = some (.goto 4, 3) := by rw [It_X8_slacks]; rfl
theorem I_X8_slacks_46 : zin zm_X8_slacks.2.2.2.2.2 46 = some (.iconst 0, 1) := by rw [It_X8_slacks]; rfl
theorem I_X8_slacks_47 : zin zm_X8_slacks.2.2.2.2.2 47 = some (.ior, 1) := by rw [It_X8_slacks]; rfl
theorem I_X8_slacks_48 : zin zm_X8_slacks.2.2.2.2.2 48 = some (.istore_n 1, 1) := by rw [It_X8_slacks]; rfl
theorem I_X8_slacks_49 : zin zm_X8_slacks.2.2.2.2.2 49 = some (.iinc 2 1, 3) := by rw [It_X8_slacks]; rfl
theorem I_X8_slacks_52 : zin zm_X8_slacks.2.2.2.2.2 52 = some (.goto (-48), 3) := by rw [It_X8_slacks]; rfl
theorem I_X8_slacks_55 : zin zm_X8_slacks.2.2.2.2.2 55 = some (.iload_n 1, 1) := by rw [It_X8_slacks]; rfl
theorem I_X8_slacks_56 : zin zm_X8_slacks.2.2.2.2.2 56 = some (.ireturn, 1) := by rw [It_X8_slacks]; rfl
theorem G_6_25 : zlk zfls 6 25 = some (3, 1, 210) := rfl
theorem K_7_243 : zlk zmls 7 243 = some (0, 60, 1, 745) := rfl
theorem K_8_232 : zlk zmls 8 232 = some (0, 169, 0, 1173) := rfl
theorem Zm_60 : zms[60]? = some zm_X6_fits := rfl
theorem Zm_169 : zms[169]? = some zm_X8_isAsSeen := rfl
theorem cl_X6_fits : zm_X6_fits.2.2.2.2.1 = 6 := by
  unfold zm_X6_fits
  rfl
theorem cn_X6_fits : zm_X6_fits.2.2.2.2.1 ≠ 12 := by
  rw [cl_X6_fits]
  decide
theorem cn2_X6_fits : zm_X6_fits.2.2.2.2.1 ≠ 2 := by
  rw [cl_X6_fits]
  decide
theorem cl_X7_slacks : zm_X7_slacks.2.2.2.2.1 = 7 := by
  unfold zm_X7_slacks
  rfl
theorem cn_X7_slacks : zm_X7_slacks.2.2.2.2.1 ≠ 12 := by
  rw [cl_X7_slacks]
  decide
theorem cn2_X7_slacks : zm_X7_slacks.2.2.2.2.1 ≠ 2 := by
  rw [cl_X7_slacks]
  decide
theorem cl_X8_isAsSeen : zm_X8_isAsSeen.2.2.2.2.1 = 8 := by
  unfold zm_X8_isAsSeen
  rfl
theorem cn_X8_isAsSeen : zm_X8_isAsSeen.2.2.2.2.1 ≠ 12 := by
  rw [cl_X8_isAsSeen]
  decide
theorem cn2_X8_isAsSeen : zm_X8_isAsSeen.2.2.2.2.1 ≠ 2 := by
  rw [cl_X8_isAsSeen]
  decide
theorem cl_X8_slacks : zm_X8_slacks.2.2.2.2.1 = 8 := by
  unfold zm_X8_slacks
  rfl
theorem cn_X8_slacks : zm_X8_slacks.2.2.2.2.1 ≠ 12 := by
  rw [cl_X8_slacks]
  decide
theorem cn2_X8_slacks : zm_X8_slacks.2.2.2.2.1 ≠ 2 := by
  rw [cl_X8_slacks]
  decide
/-- what is seen, alike -/
def SV (m : zM) : Prop := ∃ s, s ≤ 6 ∧ m 40 3 = Int32.ofNat s ∧ m 71 23 = Int32.ofNat s ∧ ∀ k, k < s → m 41 k = m 79 (2 * k) ∧ m 42 k = m 79 (2 * k + 1)
def RS (m : zM) : Prop := RF m ∧ SV m
def qSn (k i : Nat) : Bool := (Nat.beq k 71 && Nat.beq i 23) || (Nat.beq k 40 && Nat.beq i 3) || (Nat.beq k 41 && Nat.blt i 6) || (Nat.beq k 42 && Nat.blt i 6) || (Nat.beq k 79 && Nat.blt i 12)
theorem qSn_p : zqp qSn = true := by decide +kernel
theorem qSn_r : ∀ i, i < 6 → qSn 41 i = true ∧ qSn 42 i = true ∧ qSn 79 (2 * i) = true ∧ qSn 79 (2 * i + 1) = true := by decide
theorem SV_e {m m1 : zM} (h : SV m) (he : zqe qSn m m1) : SV m1 := by
  obtain ⟨s, s1, s2, s3, s4⟩ := h
  refine ⟨s, s1, (he 40 3 rfl rfl rfl).trans s2, (he 71 23 rfl rfl rfl).trans s3, fun k hk => ?_⟩
  obtain ⟨q1, q2, q3, q4⟩ := qSn_r k (by omega)
  rw [he 41 k rfl (by rw [Nat.blt_eq]; omega) q1, he 42 k rfl (by rw [Nat.blt_eq]; omega) q2, he 79 (2 * k) rfl (by rw [Nat.blt_eq]; omega) q3, he 79 (2 * k + 1) rfl (by rw [Nat.blt_eq]; omega) q4]
  exact s4 k hk
theorem SV_f {md : yMd} {m m1 : zM} (h : SV m) (hf : zfm md m m1) (hc : zqm qSn md = true) : SV m1 := SV_e h (zq_f qSn_p hc hf)
theorem zhp_c {m1 m2 : zM} {h : zHp} (h1 : h = zhp m1) (h2 : h = zhp m2) {k i : Nat} (hp : zpl1 k i) : m1 k i = m2 k i := zhp_inj (h1.symm.trans h2) hp
theorem ps_feed {m : zM} {r : Option Value} {h' : zHp} {x0 : Int32} (ht : zTy m) (hR : RS m) (H : zEv none 19 zm_X7_feed (0, lv_args 0 [.ref 0, .int x0], [], zhp m) r h') : ∃ m1 v, r = some (.int v) ∧ h' = zhp m1 ∧ zTy m1 ∧ ∀ r2 h2, zEv none 19 zm_X8_feed (0, lv_args 0 [.ref 71, .int x0], [], zhp m1) r2 h2 → ∃ m2 v2, r2 = some (.int v2) ∧ h2 = zhp m2 ∧ zTy m2 ∧ RS m2 := by
  obtain ⟨hR1, hS⟩ := hR
  obtain ⟨m1, v, b1, b2, t1, K⟩ := pf_feed ht hR1 H
  obtain ⟨q1, q2, q3, q4, q5, q6⟩ := e_X7_feed ht H
  obtain ⟨_, f1⟩ := eng_m b2 q4 q5 q6
  refine ⟨m1, v, b1, b2, t1, fun r2 h2 H2 => ?_⟩
  obtain ⟨m2, v2, d1, d2, t2, R2⟩ := K r2 h2 H2
  obtain ⟨u1, u2, u3, u4, u5, u6⟩ := e_X8_feed t1 H2
  obtain ⟨_, f2⟩ := eng_m d2 u4 u5 u6
  exact ⟨m2, v2, d1, d2, t2, ⟨R2, SV_f (SV_f hS f1 (by decide +kernel)) f2 (by decide +kernel)⟩⟩
theorem ps_end {m : zM} {r : Option Value} {h' : zHp} {x0 : Int32} (ht : zTy m) (hR : RS m) (H : zEv none 19 zm_X7_end (0, lv_args 0 [.ref 0, .int x0], [], zhp m) r h') : ∃ m1 v, r = some (.int v) ∧ h' = zhp m1 ∧ zTy m1 ∧ ∀ r2 h2, zEv none 19 zm_X8_end (0, lv_args 0 [.ref 71, .int x0], [], zhp m1) r2 h2 → ∃ m2 v2, r2 = some (.int v2) ∧ h2 = zhp m2 ∧ zTy m2 ∧ RS m2 := by
  obtain ⟨hR1, hS⟩ := hR
  obtain ⟨m1, v, b1, b2, t1, K⟩ := pf_end ht hR1 H
  obtain ⟨q1, q2, q3, q4, q5, q6⟩ := e_X7_end ht H
  obtain ⟨_, f1⟩ := eng_m b2 q4 q5 q6
  refine ⟨m1, v, b1, b2, t1, fun r2 h2 H2 => ?_⟩
  obtain ⟨m2, v2, d1, d2, t2, R2⟩ := K r2 h2 H2
  obtain ⟨u1, u2, u3, u4, u5, u6⟩ := e_X8_end t1 H2
  obtain ⟨_, f2⟩ := eng_m d2 u4 u5 u6
  exact ⟨m2, v2, d1, d2, t2, ⟨R2, SV_f (SV_f hS f1 (by decide +kernel)) f2 (by decide +kernel)⟩⟩
theorem ps_fault {m : zM} {r : Option Value} {h' : zHp} (ht : zTy m) (hR : RS m) (H : zEv none 19 zm_X7_fault (0, lv_args 0 [.ref 0], [], zhp m) r h') : ∃ m1 v, r = some (.int v) ∧ h' = zhp m1 ∧ zTy m1 ∧ ∀ r2 h2, zEv none 19 zm_X8_fault (0, lv_args 0 [.ref 71], [], zhp m1) r2 h2 → ∃ m2 v2, r2 = some (.int v2) ∧ h2 = zhp m2 ∧ zTy m2 ∧ RS m2 := by
  obtain ⟨hR1, hS⟩ := hR
  obtain ⟨m1, v, b1, b2, t1, K⟩ := pf_fault ht hR1 H
  obtain ⟨q1, q2, q3, q4, q5, q6⟩ := e_X7_fault ht H
  obtain ⟨_, f1⟩ := eng_m b2 q4 q5 q6
  refine ⟨m1, v, b1, b2, t1, fun r2 h2 H2 => ?_⟩
  obtain ⟨m2, v2, d1, d2, t2, R2⟩ := K r2 h2 H2
  obtain ⟨u1, u2, u3, u4, u5, u6⟩ := e_X8_fault t1 H2
  obtain ⟨_, f2⟩ := eng_m d2 u4 u5 u6
  exact ⟨m2, v2, d1, d2, t2, ⟨R2, SV_f (SV_f hS f1 (by decide +kernel)) f2 (by decide +kernel)⟩⟩
theorem ps_rule {m : zM} {r : Option Value} {h' : zHp} {x0 : Int32} (ht : zTy m) (hR : RS m) (H : zEv none 19 zm_X7_rule (0, lv_args 0 [.ref 0, .int x0], [], zhp m) r h') : ∃ m1 v, r = some (.int v) ∧ h' = zhp m1 ∧ zTy m1 ∧ ∀ r2 h2, zEv none 19 zm_X8_rule (0, lv_args 0 [.ref 71, .int x0], [], zhp m1) r2 h2 → ∃ m2 v2, r2 = some (.int v2) ∧ h2 = zhp m2 ∧ zTy m2 ∧ RS m2 ∧ v = v2 := by
  obtain ⟨hR1, hS⟩ := hR
  obtain ⟨m1, v, b1, b2, t1, K⟩ := pf_rule ht hR1 H
  obtain ⟨q1, q2, q3, q4, q5, q6⟩ := e_X7_rule ht H
  obtain ⟨_, f1⟩ := eng_m b2 q4 q5 q6
  refine ⟨m1, v, b1, b2, t1, fun r2 h2 H2 => ?_⟩
  obtain ⟨m2, v2, d1, d2, t2, R2, e⟩ := K r2 h2 H2
  obtain ⟨u1, u2, u3, u4, u5, u6⟩ := e_X8_rule t1 H2
  obtain ⟨_, f2⟩ := eng_m d2 u4 u5 u6
  exact ⟨m2, v2, d1, d2, t2, ⟨R2, SV_f (SV_f hS f1 (by decide +kernel)) f2 (by decide +kernel)⟩, e⟩
theorem ps_one {m : zM} {r : Option Value} {h' : zHp} {x0 x1 : Int32} (ht : zTy m) (hR : RS m) (H : zEv none 19 zm_X7_one (0, lv_args 0 [.ref 0, .int x0, .int x1], [], zhp m) r h') : ∃ m1 v, r = some (.int v) ∧ h' = zhp m1 ∧ zTy m1 ∧ ∀ r2 h2, zEv none 19 zm_X8_one (0, lv_args 0 [.ref 71, .int x0, .int x1], [], zhp m1) r2 h2 → ∃ m2 v2, r2 = some (.int v2) ∧ h2 = zhp m2 ∧ zTy m2 ∧ RS m2 ∧ v = v2 := by
  obtain ⟨hR1, hS⟩ := hR
  obtain ⟨m1, v, b1, b2, t1, K⟩ := pf_one ht hR1 H
  obtain ⟨q1, q2, q3, q4, q5, q6⟩ := e_X7_one ht H
  obtain ⟨_, f1⟩ := eng_m b2 q4 q5 q6
  refine ⟨m1, v, b1, b2, t1, fun r2 h2 H2 => ?_⟩
  obtain ⟨m2, v2, d1, d2, t2, R2, e⟩ := K r2 h2 H2
  obtain ⟨u1, u2, u3, u4, u5, u6⟩ := e_X8_one t1 H2
  obtain ⟨_, f2⟩ := eng_m d2 u4 u5 u6
  exact ⟨m2, v2, d1, d2, t2, ⟨R2, SV_f (SV_f hS f1 (by decide +kernel)) f2 (by decide +kernel)⟩, e⟩
theorem ps_act {m : zM} {r : Option Value} {h' : zHp} {x0 : Int32} (ht : zTy m) (hR : RS m) (H : zEv none 19 zm_X7_act (0, lv_args 0 [.ref 0, .int x0], [], zhp m) r h') : ∃ m1 v, r = some (.int v) ∧ h' = zhp m1 ∧ zTy m1 ∧ ∀ r2 h2, zEv none 19 zm_X8_act (0, lv_args 0 [.ref 71, .int x0], [], zhp m1) r2 h2 → ∃ m2 v2, r2 = some (.int v2) ∧ h2 = zhp m2 ∧ zTy m2 ∧ RS m2 ∧ v = v2 := by
  obtain ⟨hR1, hS⟩ := hR
  obtain ⟨m1, v, b1, b2, t1, K⟩ := pf_act ht hR1 H
  obtain ⟨q1, q2, q3, q4, q5, q6⟩ := e_X7_act ht H
  obtain ⟨_, f1⟩ := eng_m b2 q4 q5 q6
  refine ⟨m1, v, b1, b2, t1, fun r2 h2 H2 => ?_⟩
  obtain ⟨m2, v2, d1, d2, t2, R2, e⟩ := K r2 h2 H2
  obtain ⟨u1, u2, u3, u4, u5, u6⟩ := e_X8_act t1 H2
  obtain ⟨_, f2⟩ := eng_m d2 u4 u5 u6
  exact ⟨m2, v2, d1, d2, t2, ⟨R2, SV_f (SV_f hS f1 (by decide +kernel)) f2 (by decide +kernel)⟩, e⟩
theorem ps_alter {m : zM} {r : Option Value} {h' : zHp} {x0 x1 x2 : Int32} (ht : zTy m) (hR : RS m) (H : zEv none 19 zm_X7_alter (0, lv_args 0 [.ref 0, .int x0, .int x1, .int x2], [], zhp m) r h') : ∃ m1 v, r = some (.int v) ∧ h' = zhp m1 ∧ zTy m1 ∧ ∀ r2 h2, zEv none 19 zm_X8_alter (0, lv_args 0 [.ref 71, .int x0, .int x1, .int x2], [], zhp m1) r2 h2 → ∃ m2 v2, r2 = some (.int v2) ∧ h2 = zhp m2 ∧ zTy m2 ∧ RS m2 ∧ v = v2 := by
  obtain ⟨hR1, hS⟩ := hR
  obtain ⟨m1, v, b1, b2, t1, K⟩ := pf_alter ht hR1 H
  obtain ⟨q1, q2, q3, q4, q5, q6⟩ := e_X7_alter ht H
  obtain ⟨_, f1⟩ := eng_m b2 q4 q5 q6
  refine ⟨m1, v, b1, b2, t1, fun r2 h2 H2 => ?_⟩
  obtain ⟨m2, v2, d1, d2, t2, R2, e⟩ := K r2 h2 H2
  obtain ⟨u1, u2, u3, u4, u5, u6⟩ := e_X8_alter t1 H2
  obtain ⟨_, f2⟩ := eng_m d2 u4 u5 u6
  exact ⟨m2, v2, d1, d2, t2, ⟨R2, SV_f (SV_f hS f1 (by decide +kernel)) f2 (by decide +kernel)⟩, e⟩
theorem ps_slack {m : zM} {r : Option Value} {h' : zHp} {x0 : Int32} (ht : zTy m) (hR : RS m) (H : zEv none 19 zm_X7_slack (0, lv_args 0 [.ref 0, .int x0], [], zhp m) r h') : ∃ m1 v, r = some (.int v) ∧ h' = zhp m1 ∧ zTy m1 ∧ ∀ r2 h2, zEv none 19 zm_X8_slack (0, lv_args 0 [.ref 71, .int x0], [], zhp m1) r2 h2 → ∃ m2 v2, r2 = some (.int v2) ∧ h2 = zhp m2 ∧ zTy m2 ∧ RS m2 ∧ v = v2 := by
  obtain ⟨hR1, hS⟩ := hR
  obtain ⟨m1, v, b1, b2, t1, K⟩ := pf_slack ht hR1 H
  obtain ⟨q1, q2, q3, q4, q5, q6⟩ := e_X7_slack ht H
  obtain ⟨_, f1⟩ := eng_m b2 q4 q5 q6
  refine ⟨m1, v, b1, b2, t1, fun r2 h2 H2 => ?_⟩
  obtain ⟨m2, v2, d1, d2, t2, R2, e⟩ := K r2 h2 H2
  obtain ⟨u1, u2, u3, u4, u5, u6⟩ := e_X8_slack t1 H2
  obtain ⟨_, f2⟩ := eng_m d2 u4 u5 u6
  exact ⟨m2, v2, d1, d2, t2, ⟨R2, SV_f (SV_f hS f1 (by decide +kernel)) f2 (by decide +kernel)⟩, e⟩
theorem ps_plan {m : zM} {r : Option Value} {h' : zHp} {x0 : Int32} (ht : zTy m) (hR : RS m) (H : zEv none 19 zm_X7_plan (0, lv_args 0 [.ref 0, .int x0], [], zhp m) r h') : ∃ m1 v, r = some (.int v) ∧ h' = zhp m1 ∧ zTy m1 ∧ ∀ r2 h2, zEv none 19 zm_X8_plan (0, lv_args 0 [.ref 71, .int x0], [], zhp m1) r2 h2 → ∃ m2 v2, r2 = some (.int v2) ∧ h2 = zhp m2 ∧ zTy m2 ∧ RS m2 ∧ v = v2 := by
  obtain ⟨hR1, hS⟩ := hR
  obtain ⟨m1, v, b1, b2, t1, K⟩ := pf_plan ht hR1 H
  obtain ⟨q1, q2, q3, q4, q5, q6⟩ := e_X7_plan ht H
  obtain ⟨_, f1⟩ := eng_m b2 q4 q5 q6
  refine ⟨m1, v, b1, b2, t1, fun r2 h2 H2 => ?_⟩
  obtain ⟨m2, v2, d1, d2, t2, R2, e⟩ := K r2 h2 H2
  obtain ⟨u1, u2, u3, u4, u5, u6⟩ := e_X8_plan t1 H2
  obtain ⟨_, f2⟩ := eng_m d2 u4 u5 u6
  exact ⟨m2, v2, d1, d2, t2, ⟨R2, SV_f (SV_f hS f1 (by decide +kernel)) f2 (by decide +kernel)⟩, e⟩
theorem ps_cut {m : zM} {r : Option Value} {h' : zHp} {x0 : Int32} (ht : zTy m) (hR : RS m) (H : zEv none 19 zm_X7_cut (0, lv_args 0 [.ref 0, .int x0], [], zhp m) r h') : ∃ m1 v, r = some (.int v) ∧ h' = zhp m1 ∧ zTy m1 ∧ ∀ r2 h2, zEv none 19 zm_X8_cut (0, lv_args 0 [.ref 71, .int x0], [], zhp m1) r2 h2 → ∃ m2 v2, r2 = some (.int v2) ∧ h2 = zhp m2 ∧ zTy m2 ∧ RS m2 ∧ v = v2 := by
  obtain ⟨hR1, hS⟩ := hR
  obtain ⟨m1, v, b1, b2, t1, K⟩ := pf_cut ht hR1 H
  obtain ⟨q1, q2, q3, q4, q5, q6⟩ := e_X7_cut ht H
  obtain ⟨_, f1⟩ := eng_m b2 q4 q5 q6
  refine ⟨m1, v, b1, b2, t1, fun r2 h2 H2 => ?_⟩
  obtain ⟨m2, v2, d1, d2, t2, R2, e⟩ := K r2 h2 H2
  obtain ⟨u1, u2, u3, u4, u5, u6⟩ := e_X8_cut t1 H2
  obtain ⟨_, f2⟩ := eng_m d2 u4 u5 u6
  exact ⟨m2, v2, d1, d2, t2, ⟨R2, SV_f (SV_f hS f1 (by decide +kernel)) f2 (by decide +kernel)⟩, e⟩
theorem ps_turn {m : zM} {r : Option Value} {h' : zHp} {x0 : Int32} (ht : zTy m) (hR : RS m) (H : zEv none 19 zm_X7_turn (0, lv_args 0 [.ref 0, .int x0], [], zhp m) r h') : ∃ m1 v, r = some (.int v) ∧ h' = zhp m1 ∧ zTy m1 ∧ ∀ r2 h2, zEv none 19 zm_X8_turn (0, lv_args 0 [.ref 71, .int x0], [], zhp m1) r2 h2 → ∃ m2 v2, r2 = some (.int v2) ∧ h2 = zhp m2 ∧ zTy m2 ∧ RS m2 ∧ v = v2 := by
  obtain ⟨hR1, hS⟩ := hR
  obtain ⟨m1, v, b1, b2, t1, K⟩ := pf_turn ht hR1 H
  obtain ⟨q1, q2, q3, q4, q5, q6⟩ := e_X7_turn ht H
  obtain ⟨_, f1⟩ := eng_m b2 q4 q5 q6
  refine ⟨m1, v, b1, b2, t1, fun r2 h2 H2 => ?_⟩
  obtain ⟨m2, v2, d1, d2, t2, R2, e⟩ := K r2 h2 H2
  obtain ⟨u1, u2, u3, u4, u5, u6⟩ := e_X8_turn t1 H2
  obtain ⟨_, f2⟩ := eng_m d2 u4 u5 u6
  exact ⟨m2, v2, d1, d2, t2, ⟨R2, SV_f (SV_f hS f1 (by decide +kernel)) f2 (by decide +kernel)⟩, e⟩
theorem ps_rest {m : zM} {r : Option Value} {h' : zHp} {x0 : Int32} (ht : zTy m) (hR : RS m) (H : zEv none 19 zm_X7_rest (0, lv_args 0 [.ref 0, .int x0], [], zhp m) r h') : ∃ m1 v, r = some (.int v) ∧ h' = zhp m1 ∧ zTy m1 ∧ ∀ r2 h2, zEv none 19 zm_X8_rest (0, lv_args 0 [.ref 71, .int x0], [], zhp m1) r2 h2 → ∃ m2 v2, r2 = some (.int v2) ∧ h2 = zhp m2 ∧ zTy m2 ∧ RS m2 ∧ v = v2 := by
  obtain ⟨hR1, hS⟩ := hR
  obtain ⟨m1, v, b1, b2, t1, K⟩ := pf_rest ht hR1 H
  obtain ⟨q1, q2, q3, q4, q5, q6⟩ := e_X7_rest ht H
  obtain ⟨_, f1⟩ := eng_m b2 q4 q5 q6
  refine ⟨m1, v, b1, b2, t1, fun r2 h2 H2 => ?_⟩
  obtain ⟨m2, v2, d1, d2, t2, R2, e⟩ := K r2 h2 H2
  obtain ⟨u1, u2, u3, u4, u5, u6⟩ := e_X8_rest t1 H2
  obtain ⟨_, f2⟩ := eng_m d2 u4 u5 u6
  exact ⟨m2, v2, d1, d2, t2, ⟨R2, SV_f (SV_f hS f1 (by decide +kernel)) f2 (by decide +kernel)⟩, e⟩
theorem ps_runs {m : zM} {r : Option Value} {h' : zHp} {x0 : Int32} (ht : zTy m) (hR : RS m) (H : zEv none 19 zm_X7_runs (0, lv_args 0 [.ref 0, .int x0], [], zhp m) r h') : ∃ m1 v, r = some (.int v) ∧ h' = zhp m1 ∧ zTy m1 ∧ ∀ r2 h2, zEv none 19 zm_X8_runs (0, lv_args 0 [.ref 71, .int x0], [], zhp m1) r2 h2 → ∃ m2 v2, r2 = some (.int v2) ∧ h2 = zhp m2 ∧ zTy m2 ∧ RS m2 := by
  obtain ⟨hR1, hS⟩ := hR
  obtain ⟨m1, v, b1, b2, t1, K⟩ := pf_runs ht hR1 H
  obtain ⟨q1, q2, q3, q4, q5, q6⟩ := e_X7_runs ht H
  obtain ⟨_, f1⟩ := eng_m b2 q4 q5 q6
  refine ⟨m1, v, b1, b2, t1, fun r2 h2 H2 => ?_⟩
  obtain ⟨m2, v2, d1, d2, t2, R2⟩ := K r2 h2 H2
  obtain ⟨u1, u2, u3, u4, u5, u6⟩ := e_X8_runs t1 H2
  obtain ⟨_, f2⟩ := eng_m d2 u4 u5 u6
  exact ⟨m2, v2, d1, d2, t2, ⟨R2, SV_f (SV_f hS f1 (by decide +kernel)) f2 (by decide +kernel)⟩⟩
theorem ps_ahead {m : zM} {r : Option Value} {h' : zHp} {x0 : Int32} (ht : zTy m) (hR : RS m) (H : zEv none 19 zm_X7_ahead (0, lv_args 0 [.ref 0, .int x0], [], zhp m) r h') : ∃ m1 v, r = some (.int v) ∧ h' = zhp m1 ∧ zTy m1 ∧ ∀ r2 h2, zEv none 19 zm_X8_ahead (0, lv_args 0 [.ref 71, .int x0], [], zhp m1) r2 h2 → ∃ m2 v2, r2 = some (.int v2) ∧ h2 = zhp m2 ∧ zTy m2 ∧ RS m2 := by
  obtain ⟨hR1, hS⟩ := hR
  obtain ⟨m1, v, b1, b2, t1, K⟩ := pf_ahead ht hR1 H
  obtain ⟨q1, q2, q3, q4, q5, q6⟩ := e_X7_ahead ht H
  obtain ⟨_, f1⟩ := eng_m b2 q4 q5 q6
  refine ⟨m1, v, b1, b2, t1, fun r2 h2 H2 => ?_⟩
  obtain ⟨m2, v2, d1, d2, t2, R2⟩ := K r2 h2 H2
  obtain ⟨u1, u2, u3, u4, u5, u6⟩ := e_X8_ahead t1 H2
  obtain ⟨_, f2⟩ := eng_m d2 u4 u5 u6
  exact ⟨m2, v2, d1, d2, t2, ⟨R2, SV_f (SV_f hS f1 (by decide +kernel)) f2 (by decide +kernel)⟩⟩
theorem ps_round {m : zM} {r : Option Value} {h' : zHp} (ht : zTy m) (hR : RS m) (H : zEv none 19 zm_X7_round (0, lv_args 0 [.ref 0], [], zhp m) r h') : ∃ m1 v, r = some (.int v) ∧ h' = zhp m1 ∧ zTy m1 ∧ ∀ r2 h2, zEv none 19 zm_X8_round (0, lv_args 0 [.ref 71], [], zhp m1) r2 h2 → ∃ m2 v2, r2 = some (.int v2) ∧ h2 = zhp m2 ∧ zTy m2 ∧ RS m2 := by
  obtain ⟨hR1, hS⟩ := hR
  obtain ⟨m1, v, b1, b2, t1, K⟩ := pf_round ht hR1 H
  obtain ⟨q1, q2, q3, q4, q5, q6⟩ := e_X7_round ht H
  obtain ⟨_, f1⟩ := eng_m b2 q4 q5 q6
  refine ⟨m1, v, b1, b2, t1, fun r2 h2 H2 => ?_⟩
  obtain ⟨m2, v2, d1, d2, t2, R2⟩ := K r2 h2 H2
  obtain ⟨u1, u2, u3, u4, u5, u6⟩ := e_X8_round t1 H2
  obtain ⟨_, f2⟩ := eng_m d2 u4 u5 u6
  exact ⟨m2, v2, d1, d2, t2, ⟨R2, SV_f (SV_f hS f1 (by decide +kernel)) f2 (by decide +kernel)⟩⟩
theorem ps_order {m : zM} {r : Option Value} {h' : zHp} {x0 x1 : Int32} (ht : zTy m) (hR : RS m) (H : zEv none 19 zm_X7_order (0, lv_args 0 [.ref 0, .int x0, .int x1], [], zhp m) r h') : ∃ m1 v, r = some (.int v) ∧ h' = zhp m1 ∧ zTy m1 ∧ ∀ r2 h2, zEv none 19 zm_X8_order (0, lv_args 0 [.ref 71, .int x0, .int x1], [], zhp m1) r2 h2 → ∃ m2 v2, r2 = some (.int v2) ∧ h2 = zhp m2 ∧ zTy m2 ∧ RS m2 := by
  obtain ⟨hR1, hS⟩ := hR
  obtain ⟨m1, v, b1, b2, t1, K⟩ := pf_order ht hR1 H
  obtain ⟨q1, q2, q3, q4, q5, q6⟩ := e_X7_order ht H
  obtain ⟨_, f1⟩ := eng_m b2 q4 q5 q6
  refine ⟨m1, v, b1, b2, t1, fun r2 h2 H2 => ?_⟩
  obtain ⟨m2, v2, d1, d2, t2, R2⟩ := K r2 h2 H2
  obtain ⟨u1, u2, u3, u4, u5, u6⟩ := e_X8_order t1 H2
  obtain ⟨_, f2⟩ := eng_m d2 u4 u5 u6
  exact ⟨m2, v2, d1, d2, t2, ⟨R2, SV_f (SV_f hS f1 (by decide +kernel)) f2 (by decide +kernel)⟩⟩
theorem ps_await {m : zM} {r : Option Value} {h' : zHp} {x0 x1 : Int32} (ht : zTy m) (hR : RS m) (H : zEv none 19 zm_X7_await (0, lv_args 0 [.ref 0, .int x0, .int x1], [], zhp m) r h') : ∃ m1 v, r = some (.int v) ∧ h' = zhp m1 ∧ zTy m1 ∧ ∀ r2 h2, zEv none 19 zm_X8_await (0, lv_args 0 [.ref 71, .int x0, .int x1], [], zhp m1) r2 h2 → ∃ m2 v2, r2 = some (.int v2) ∧ h2 = zhp m2 ∧ zTy m2 ∧ RS m2 := by
  obtain ⟨hR1, hS⟩ := hR
  obtain ⟨m1, v, b1, b2, t1, K⟩ := pf_await ht hR1 H
  obtain ⟨q1, q2, q3, q4, q5, q6⟩ := e_X7_await ht H
  obtain ⟨_, f1⟩ := eng_m b2 q4 q5 q6
  refine ⟨m1, v, b1, b2, t1, fun r2 h2 H2 => ?_⟩
  obtain ⟨m2, v2, d1, d2, t2, R2⟩ := K r2 h2 H2
  obtain ⟨u1, u2, u3, u4, u5, u6⟩ := e_X8_await t1 H2
  obtain ⟨_, f2⟩ := eng_m d2 u4 u5 u6
  exact ⟨m2, v2, d1, d2, t2, ⟨R2, SV_f (SV_f hS f1 (by decide +kernel)) f2 (by decide +kernel)⟩⟩
theorem ps_hands {m : zM} {r : Option Value} {h' : zHp} {x0 : Int32} (ht : zTy m) (hR : RS m) (H : zEv none 19 zm_X7_hands (0, lv_args 0 [.ref 0, .int x0], [], zhp m) r h') : ∃ m1 v, r = some (.int v) ∧ h' = zhp m1 ∧ zTy m1 ∧ ∀ r2 h2, zEv none 19 zm_X8_hands (0, lv_args 0 [.ref 71, .int x0], [], zhp m1) r2 h2 → ∃ m2 v2, r2 = some (.int v2) ∧ h2 = zhp m2 ∧ zTy m2 ∧ RS m2 := by
  obtain ⟨hR1, hS⟩ := hR
  obtain ⟨m1, v, b1, b2, t1, K⟩ := pf_hands ht hR1 H
  obtain ⟨q1, q2, q3, q4, q5, q6⟩ := e_X7_hands ht H
  obtain ⟨_, f1⟩ := eng_m b2 q4 q5 q6
  refine ⟨m1, v, b1, b2, t1, fun r2 h2 H2 => ?_⟩
  obtain ⟨m2, v2, d1, d2, t2, R2⟩ := K r2 h2 H2
  obtain ⟨u1, u2, u3, u4, u5, u6⟩ := e_X8_hands t1 H2
  obtain ⟨_, f2⟩ := eng_m d2 u4 u5 u6
  exact ⟨m2, v2, d1, d2, t2, ⟨R2, SV_f (SV_f hS f1 (by decide +kernel)) f2 (by decide +kernel)⟩⟩
theorem ps_clean {m : zM} {r : Option Value} {h' : zHp} {x0 : Int32} (ht : zTy m) (hR : RS m) (H : zEv none 19 zm_X7_clean (0, lv_args 0 [.ref 0, .int x0], [], zhp m) r h') : ∃ m1 v, r = some (.int v) ∧ h' = zhp m1 ∧ zTy m1 ∧ ∀ r2 h2, zEv none 19 zm_X8_clean (0, lv_args 0 [.ref 71, .int x0], [], zhp m1) r2 h2 → ∃ m2 v2, r2 = some (.int v2) ∧ h2 = zhp m2 ∧ zTy m2 ∧ RS m2 := by
  obtain ⟨hR1, hS⟩ := hR
  obtain ⟨m1, v, b1, b2, t1, K⟩ := pf_clean ht hR1 H
  obtain ⟨q1, q2, q3, q4, q5, q6⟩ := e_X7_clean ht H
  obtain ⟨_, f1⟩ := eng_m b2 q4 q5 q6
  refine ⟨m1, v, b1, b2, t1, fun r2 h2 H2 => ?_⟩
  obtain ⟨m2, v2, d1, d2, t2, R2⟩ := K r2 h2 H2
  obtain ⟨u1, u2, u3, u4, u5, u6⟩ := e_X8_clean t1 H2
  obtain ⟨_, f2⟩ := eng_m d2 u4 u5 u6
  exact ⟨m2, v2, d1, d2, t2, ⟨R2, SV_f (SV_f hS f1 (by decide +kernel)) f2 (by decide +kernel)⟩⟩
theorem ps_trade {m : zM} {r : Option Value} {h' : zHp} {x0 : Int32} (ht : zTy m) (hR : RS m) (H : zEv none 19 zm_X7_trade (0, lv_args 0 [.ref 0, .int x0], [], zhp m) r h') : ∃ m1 v, r = some (.int v) ∧ h' = zhp m1 ∧ zTy m1 ∧ ∀ r2 h2, zEv none 19 zm_X8_trade (0, lv_args 0 [.ref 71, .int x0], [], zhp m1) r2 h2 → ∃ m2 v2, r2 = some (.int v2) ∧ h2 = zhp m2 ∧ zTy m2 ∧ RS m2 := by
  obtain ⟨hR1, hS⟩ := hR
  obtain ⟨m1, v, b1, b2, t1, K⟩ := pf_trade ht hR1 H
  obtain ⟨q1, q2, q3, q4, q5, q6⟩ := e_X7_trade ht H
  obtain ⟨_, f1⟩ := eng_m b2 q4 q5 q6
  refine ⟨m1, v, b1, b2, t1, fun r2 h2 H2 => ?_⟩
  obtain ⟨m2, v2, d1, d2, t2, R2⟩ := K r2 h2 H2
  obtain ⟨u1, u2, u3, u4, u5, u6⟩ := e_X8_trade t1 H2
  obtain ⟨_, f2⟩ := eng_m d2 u4 u5 u6
  exact ⟨m2, v2, d1, d2, t2, ⟨R2, SV_f (SV_f hS f1 (by decide +kernel)) f2 (by decide +kernel)⟩⟩
theorem ps_loose {m : zM} {r : Option Value} {h' : zHp} (ht : zTy m) (hR : RS m) (H : zEv none 19 zm_X7_loose (0, lv_args 0 [.ref 0], [], zhp m) r h') : ∃ m1 v, r = some (.int v) ∧ h' = zhp m1 ∧ zTy m1 ∧ ∀ r2 h2, zEv none 19 zm_X8_loose (0, lv_args 0 [.ref 71], [], zhp m1) r2 h2 → ∃ m2 v2, r2 = some (.int v2) ∧ h2 = zhp m2 ∧ zTy m2 ∧ RS m2 := by
  obtain ⟨hR1, hS⟩ := hR
  obtain ⟨m1, v, b1, b2, t1, K⟩ := pf_loose ht hR1 H
  obtain ⟨q1, q2, q3, q4, q5, q6⟩ := e_X7_loose ht H
  obtain ⟨_, f1⟩ := eng_m b2 q4 q5 q6
  refine ⟨m1, v, b1, b2, t1, fun r2 h2 H2 => ?_⟩
  obtain ⟨m2, v2, d1, d2, t2, R2⟩ := K r2 h2 H2
  obtain ⟨u1, u2, u3, u4, u5, u6⟩ := e_X8_loose t1 H2
  obtain ⟨_, f2⟩ := eng_m d2 u4 u5 u6
  exact ⟨m2, v2, d1, d2, t2, ⟨R2, SV_f (SV_f hS f1 (by decide +kernel)) f2 (by decide +kernel)⟩⟩
theorem ps_mean {m : zM} {r : Option Value} {h' : zHp} {x0 x1 : Int32} (ht : zTy m) (hR : RS m) (H : zEv none 19 zm_X7_mean (0, lv_args 0 [.ref 0, .int x0, .int x1], [], zhp m) r h') : ∃ m1 v, r = some (.long v) ∧ h' = zhp m1 ∧ zTy m1 ∧ ∀ r2 h2, zEv none 19 zm_X8_mean (0, lv_args 0 [.ref 71, .int x0, .int x1], [], zhp m1) r2 h2 → ∃ m2 v2, r2 = some (.long v2) ∧ h2 = zhp m2 ∧ zTy m2 ∧ RS m2 := by
  obtain ⟨hR1, hS⟩ := hR
  obtain ⟨m1, v, b1, b2, t1, K⟩ := pf_mean ht hR1 H
  obtain ⟨q1, q2, q3, q4, q5, q6⟩ := e_X7_mean ht H
  obtain ⟨_, f1⟩ := eng_m b2 q4 q5 q6
  refine ⟨m1, v, b1, b2, t1, fun r2 h2 H2 => ?_⟩
  obtain ⟨m2, v2, d1, d2, t2, R2⟩ := K r2 h2 H2
  obtain ⟨u1, u2, u3, u4, u5, u6⟩ := e_X8_mean t1 H2
  obtain ⟨_, f2⟩ := eng_m d2 u4 u5 u6
  exact ⟨m2, v2, d1, d2, t2, ⟨R2, SV_f (SV_f hS f1 (by decide +kernel)) f2 (by decide +kernel)⟩⟩
theorem ps_luck {m : zM} {r : Option Value} {h' : zHp} {x0 x1 x2 : Int32} (ht : zTy m) (hR : RS m) (H : zEv none 19 zm_X7_luck (0, lv_args 0 [.ref 0, .int x0, .int x1, .int x2], [], zhp m) r h') : ∃ m1 v, r = some (.long v) ∧ h' = zhp m1 ∧ zTy m1 ∧ ∀ r2 h2, zEv none 19 zm_X8_luck (0, lv_args 0 [.ref 71, .int x0, .int x1, .int x2], [], zhp m1) r2 h2 → ∃ m2 v2, r2 = some (.long v2) ∧ h2 = zhp m2 ∧ zTy m2 ∧ RS m2 := by
  obtain ⟨hR1, hS⟩ := hR
  obtain ⟨m1, v, b1, b2, t1, K⟩ := pf_luck ht hR1 H
  obtain ⟨q1, q2, q3, q4, q5, q6⟩ := e_X7_luck ht H
  obtain ⟨_, f1⟩ := eng_m b2 q4 q5 q6
  refine ⟨m1, v, b1, b2, t1, fun r2 h2 H2 => ?_⟩
  obtain ⟨m2, v2, d1, d2, t2, R2⟩ := K r2 h2 H2
  obtain ⟨u1, u2, u3, u4, u5, u6⟩ := e_X8_luck t1 H2
  obtain ⟨_, f2⟩ := eng_m d2 u4 u5 u6
  exact ⟨m2, v2, d1, d2, t2, ⟨R2, SV_f (SV_f hS f1 (by decide +kernel)) f2 (by decide +kernel)⟩⟩
theorem ps_counts {m : zM} {r : Option Value} {h' : zHp} {x0 x1 : Int32} (ht : zTy m) (hR : RS m) (H : zEv none 19 zm_X7_counts (0, lv_args 0 [.ref 0, .int x0, .int x1], [], zhp m) r h') : ∃ m1 v, r = some (.int v) ∧ h' = zhp m1 ∧ zTy m1 ∧ ∀ r2 h2, zEv none 19 zm_X8_counts (0, lv_args 0 [.ref 71, .int x0, .int x1], [], zhp m1) r2 h2 → ∃ m2 v2, r2 = some (.int v2) ∧ h2 = zhp m2 ∧ zTy m2 ∧ RS m2 := by
  obtain ⟨hR1, hS⟩ := hR
  obtain ⟨m1, v, b1, b2, t1, K⟩ := pf_counts ht hR1 H
  obtain ⟨q1, q2, q3, q4, q5, q6⟩ := e_X7_counts ht H
  obtain ⟨_, f1⟩ := eng_m b2 q4 q5 q6
  refine ⟨m1, v, b1, b2, t1, fun r2 h2 H2 => ?_⟩
  obtain ⟨m2, v2, d1, d2, t2, R2⟩ := K r2 h2 H2
  obtain ⟨u1, u2, u3, u4, u5, u6⟩ := e_X8_counts t1 H2
  obtain ⟨_, f2⟩ := eng_m d2 u4 u5 u6
  exact ⟨m2, v2, d1, d2, t2, ⟨R2, SV_f (SV_f hS f1 (by decide +kernel)) f2 (by decide +kernel)⟩⟩
theorem ps_slacks {m : zM} {r : Option Value} {h' : zHp} (ht : zTy m) (hR : RS m) (H : zEv none 19 zm_X7_slacks (0, lv_args 0 [.ref 0], [], zhp m) r h') : ∃ m1 v, r = some (.int v) ∧ h' = zhp m1 ∧ zTy m1 ∧ ∀ r2 h2, zEv none 19 zm_X8_slacks (0, lv_args 0 [.ref 71], [], zhp m1) r2 h2 → ∃ m2 v2, r2 = some (.int v2) ∧ h2 = zhp m2 ∧ zTy m2 ∧ RS m2 := by
  obtain ⟨hR1, hS⟩ := hR
  obtain ⟨m1, v, b1, b2, t1, K⟩ := pf_slacks ht hR1 H
  obtain ⟨q1, q2, q3, q4, q5, q6⟩ := e_X7_slacks ht H
  obtain ⟨_, f1⟩ := eng_m b2 q4 q5 q6
  refine ⟨m1, v, b1, b2, t1, fun r2 h2 H2 => ?_⟩
  obtain ⟨m2, v2, d1, d2, t2, R2⟩ := K r2 h2 H2
  obtain ⟨u1, u2, u3, u4, u5, u6⟩ := e_X8_slacks t1 H2
  obtain ⟨_, f2⟩ := eng_m d2 u4 u5 u6
  exact ⟨m2, v2, d1, d2, t2, ⟨R2, SV_f (SV_f hS f1 (by decide +kernel)) f2 (by decide +kernel)⟩⟩
theorem ps_look {m : zM} {r : Option Value} {h' : zHp} {x0 x1 : Int32} (ht : zTy m) (hR : RS m) (H : zEv none 19 zm_X7_look (0, lv_args 0 [.ref 0, .int x0, .int x1], [], zhp m) r h') : ∃ m1 v, r = some (.int v) ∧ h' = zhp m1 ∧ zTy m1 ∧ ∀ r2 h2, zEv none 19 zm_X8_look (0, lv_args 0 [.ref 71, .int x0, .int x1], [], zhp m1) r2 h2 → ∃ m2 v2, r2 = some (.int v2) ∧ h2 = zhp m2 ∧ zTy m2 ∧ RS m2 := by
  obtain ⟨hR1, hS⟩ := hR
  obtain ⟨m1, v, b1, b2, t1, K⟩ := pf_look ht hR1 H
  obtain ⟨q1, q2, q3, q4, q5, q6⟩ := e_X7_look ht H
  obtain ⟨_, f1⟩ := eng_m b2 q4 q5 q6
  refine ⟨m1, v, b1, b2, t1, fun r2 h2 H2 => ?_⟩
  obtain ⟨m2, v2, d1, d2, t2, R2⟩ := K r2 h2 H2
  obtain ⟨u1, u2, u3, u4, u5, u6⟩ := e_X8_look t1 H2
  obtain ⟨_, f2⟩ := eng_m d2 u4 u5 u6
  exact ⟨m2, v2, d1, d2, t2, ⟨R2, SV_f (SV_f hS f1 (by decide +kernel)) f2 (by decide +kernel)⟩⟩
theorem ps_drift {m : zM} {r : Option Value} {h' : zHp} {x0 x1 x2 : Int32} (ht : zTy m) (hR : RS m) (H : zEv none 19 zm_X7_drift (0, lv_args 0 [.ref 0, .int x0, .int x1, .int x2], [], zhp m) r h') : ∃ m1 v, r = some (.int v) ∧ h' = zhp m1 ∧ zTy m1 ∧ ∀ r2 h2, zEv none 19 zm_X8_drift (0, lv_args 0 [.ref 71, .int x0, .int x1, .int x2], [], zhp m1) r2 h2 → ∃ m2 v2, r2 = some (.int v2) ∧ h2 = zhp m2 ∧ zTy m2 ∧ RS m2 := by
  obtain ⟨hR1, hS⟩ := hR
  obtain ⟨m1, v, b1, b2, t1, K⟩ := pf_drift ht hR1 H
  obtain ⟨q1, q2, q3, q4, q5, q6⟩ := e_X7_drift ht H
  obtain ⟨_, f1⟩ := eng_m b2 q4 q5 q6
  refine ⟨m1, v, b1, b2, t1, fun r2 h2 H2 => ?_⟩
  obtain ⟨m2, v2, d1, d2, t2, R2⟩ := K r2 h2 H2
  obtain ⟨u1, u2, u3, u4, u5, u6⟩ := e_X8_drift t1 H2
  obtain ⟨_, f2⟩ := eng_m d2 u4 u5 u6
  exact ⟨m2, v2, d1, d2, t2, ⟨R2, SV_f (SV_f hS f1 (by decide +kernel)) f2 (by decide +kernel)⟩⟩
theorem ps_keep {m : zM} {r : Option Value} {h' : zHp} {x0 : Int32} (ht : zTy m) (hR : RS m) (H : zEv none 19 zm_X7_keep (0, lv_args 0 [.ref 0, .int x0], [], zhp m) r h') : ∃ m1 v, r = some (.int v) ∧ h' = zhp m1 ∧ zTy m1 ∧ ∀ r2 h2, zEv none 19 zm_X8_keep (0, lv_args 0 [.ref 71, .int x0], [], zhp m1) r2 h2 → ∃ m2 v2, r2 = some (.int v2) ∧ h2 = zhp m2 ∧ zTy m2 ∧ RS m2 ∧ v = v2 := by
  obtain ⟨hR1, hS⟩ := hR
  obtain ⟨m1, v, b1, b2, t1, K⟩ := pf_keep ht hR1 H
  obtain ⟨q1, q2, q3, q4, q5, q6⟩ := e_X7_keep ht H
  obtain ⟨_, f1⟩ := eng_m b2 q4 q5 q6
  refine ⟨m1, v, b1, b2, t1, fun r2 h2 H2 => ?_⟩
  obtain ⟨m2, v2, d1, d2, t2, R2, e⟩ := K r2 h2 H2
  obtain ⟨u1, u2, u3, u4, u5, u6⟩ := e_X8_keep t1 H2
  obtain ⟨_, f2⟩ := eng_m d2 u4 u5 u6
  exact ⟨m2, v2, d1, d2, t2, ⟨R2, SV_f (SV_f hS f1 (by decide +kernel)) f2 (by decide +kernel)⟩, e⟩
theorem ps_back {m : zM} {r : Option Value} {h' : zHp} {x0 : Int32} (ht : zTy m) (hR : RS m) (H : zEv none 19 zm_X7_back (0, lv_args 0 [.ref 0, .int x0], [], zhp m) r h') : ∃ m1 v, r = some (.int v) ∧ h' = zhp m1 ∧ zTy m1 ∧ ∀ r2 h2, zEv none 19 zm_X8_back (0, lv_args 0 [.ref 71, .int x0], [], zhp m1) r2 h2 → ∃ m2 v2, r2 = some (.int v2) ∧ h2 = zhp m2 ∧ zTy m2 ∧ RS m2 ∧ v = v2 := by
  obtain ⟨hR1, hS⟩ := hR
  obtain ⟨m1, v, b1, b2, t1, K⟩ := pf_back ht hR1 H
  obtain ⟨q1, q2, q3, q4, q5, q6⟩ := e_X7_back ht H
  obtain ⟨_, f1⟩ := eng_m b2 q4 q5 q6
  refine ⟨m1, v, b1, b2, t1, fun r2 h2 H2 => ?_⟩
  obtain ⟨m2, v2, d1, d2, t2, R2, e⟩ := K r2 h2 H2
  obtain ⟨u1, u2, u3, u4, u5, u6⟩ := e_X8_back t1 H2
  obtain ⟨_, f2⟩ := eng_m d2 u4 u5 u6
  exact ⟨m2, v2, d1, d2, t2, ⟨R2, SV_f (SV_f hS f1 (by decide +kernel)) f2 (by decide +kernel)⟩, e⟩
theorem ps_sheet {m : zM} {r : Option Value} {h' : zHp} {x0 x1 x2 : Int32} (ht : zTy m) (hR : RS m) (H : zEv none 19 zm_X7_sheet (0, lv_args 0 [.ref 0, .int x0, .int x1, .int x2], [], zhp m) r h') : ∃ m1 v, r = some (.int v) ∧ h' = zhp m1 ∧ zTy m1 ∧ ∀ r2 h2, zEv none 19 zm_X8_sheet (0, lv_args 0 [.ref 71, .int x0, .int x1, .int x2], [], zhp m1) r2 h2 → ∃ m2 v2, r2 = some (.int v2) ∧ h2 = zhp m2 ∧ zTy m2 ∧ RS m2 := by
  obtain ⟨hR1, hS⟩ := hR
  obtain ⟨m1, v, b1, b2, t1, K⟩ := pf_sheet ht hR1 H
  obtain ⟨q1, q2, q3, q4, q5, q6⟩ := e_X7_sheet ht H
  obtain ⟨_, f1⟩ := eng_m b2 q4 q5 q6
  refine ⟨m1, v, b1, b2, t1, fun r2 h2 H2 => ?_⟩
  obtain ⟨m2, v2, d1, d2, t2, R2⟩ := K r2 h2 H2
  obtain ⟨u1, u2, u3, u4, u5, u6⟩ := e_X8_sheet t1 H2
  obtain ⟨_, f2⟩ := eng_m d2 u4 u5 u6
  exact ⟨m2, v2, d1, d2, t2, ⟨R2, SV_f (SV_f hS f1 (by decide +kernel)) f2 (by decide +kernel)⟩⟩
theorem ps_lay {m : zM} {r : Option Value} {h' : zHp} {x0 x1 x2 : Int32} (ht : zTy m) (hR : RS m) (H : zEv none 19 zm_X7_lay (0, lv_args 0 [.ref 0, .int x0, .int x1, .int x2], [], zhp m) r h') : ∃ m1 v, r = some (.int v) ∧ h' = zhp m1 ∧ zTy m1 ∧ ∀ r2 h2, zEv none 19 zm_X8_lay (0, lv_args 0 [.ref 71, .int x0, .int x1, .int x2], [], zhp m1) r2 h2 → ∃ m2 v2, r2 = some (.int v2) ∧ h2 = zhp m2 ∧ zTy m2 ∧ RS m2 := by
  obtain ⟨hR1, hS⟩ := hR
  obtain ⟨m1, v, b1, b2, t1, K⟩ := pf_lay ht hR1 H
  obtain ⟨q1, q2, q3, q4, q5, q6⟩ := e_X7_lay ht H
  obtain ⟨_, f1⟩ := eng_m b2 q4 q5 q6
  refine ⟨m1, v, b1, b2, t1, fun r2 h2 H2 => ?_⟩
  obtain ⟨m2, v2, d1, d2, t2, R2⟩ := K r2 h2 H2
  obtain ⟨u1, u2, u3, u4, u5, u6⟩ := e_X8_lay t1 H2
  obtain ⟨_, f2⟩ := eng_m d2 u4 u5 u6
  exact ⟨m2, v2, d1, d2, t2, ⟨R2, SV_f (SV_f hS f1 (by decide +kernel)) f2 (by decide +kernel)⟩⟩
theorem ps_read {m : zM} {r : Option Value} {h' : zHp} {x0 x1 x2 x3 : Int32} (ht : zTy m) (hR : RS m) (H : zEv none 19 zm_X7_read (0, lv_args 0 [.ref 0, .int x0, .int x1, .int x2, .int x3], [], zhp m) r h') : ∃ m1 v, r = some (.int v) ∧ h' = zhp m1 ∧ zTy m1 ∧ ∀ r2 h2, zEv none 19 zm_X8_read (0, lv_args 0 [.ref 71, .int x0, .int x1, .int x2, .int x3], [], zhp m1) r2 h2 → ∃ m2 v2, r2 = some (.int v2) ∧ h2 = zhp m2 ∧ zTy m2 ∧ RS m2 ∧ v = v2 := by
  obtain ⟨hR1, hS⟩ := hR
  obtain ⟨m1, v, b1, b2, t1, K⟩ := pf_read ht hR1 H
  obtain ⟨q1, q2, q3, q4, q5, q6⟩ := e_X7_read ht H
  obtain ⟨_, f1⟩ := eng_m b2 q4 q5 q6
  refine ⟨m1, v, b1, b2, t1, fun r2 h2 H2 => ?_⟩
  obtain ⟨m2, v2, d1, d2, t2, R2, e⟩ := K r2 h2 H2
  obtain ⟨u1, u2, u3, u4, u5, u6⟩ := e_X8_read t1 H2
  obtain ⟨_, f2⟩ := eng_m d2 u4 u5 u6
  exact ⟨m2, v2, d1, d2, t2, ⟨R2, SV_f (SV_f hS f1 (by decide +kernel)) f2 (by decide +kernel)⟩, e⟩
theorem ps_torn {m : zM} {r : Option Value} {h' : zHp} (ht : zTy m) (hR : RS m) (H : zEv none 19 zm_X7_torn (0, lv_args 0 [.ref 0], [], zhp m) r h') : ∃ m1 v, r = some (.int v) ∧ h' = zhp m1 ∧ zTy m1 ∧ ∀ r2 h2, zEv none 19 zm_X8_torn (0, lv_args 0 [.ref 71], [], zhp m1) r2 h2 → ∃ m2 v2, r2 = some (.int v2) ∧ h2 = zhp m2 ∧ zTy m2 ∧ RS m2 := by
  obtain ⟨hR1, hS⟩ := hR
  obtain ⟨m1, v, b1, b2, t1, K⟩ := pf_torn ht hR1 H
  obtain ⟨q1, q2, q3, q4, q5, q6⟩ := e_X7_torn ht H
  obtain ⟨_, f1⟩ := eng_m b2 q4 q5 q6
  refine ⟨m1, v, b1, b2, t1, fun r2 h2 H2 => ?_⟩
  obtain ⟨m2, v2, d1, d2, t2, R2⟩ := K r2 h2 H2
  obtain ⟨u1, u2, u3, u4, u5, u6⟩ := e_X8_torn t1 H2
  obtain ⟨_, f2⟩ := eng_m d2 u4 u5 u6
  exact ⟨m2, v2, d1, d2, t2, ⟨R2, SV_f (SV_f hS f1 (by decide +kernel)) f2 (by decide +kernel)⟩⟩
theorem ps_count {m : zM} {r : Option Value} {h' : zHp} {x0 : Int32} (ht : zTy m) (hR : RS m) (H : zEv none 19 zm_X7_count (0, lv_args 0 [.ref 0, .int x0], [], zhp m) r h') : ∃ m1 v, r = some (.int v) ∧ h' = zhp m1 ∧ zTy m1 ∧ ∀ r2 h2, zEv none 19 zm_X8_count (0, lv_args 0 [.ref 71, .int x0], [], zhp m1) r2 h2 → ∃ m2 v2, r2 = some (.int v2) ∧ h2 = zhp m2 ∧ zTy m2 ∧ RS m2 := by
  obtain ⟨hR1, hS⟩ := hR
  obtain ⟨m1, v, b1, b2, t1, K⟩ := pf_count ht hR1 H
  obtain ⟨q1, q2, q3, q4, q5, q6⟩ := e_X7_count ht H
  obtain ⟨_, f1⟩ := eng_m b2 q4 q5 q6
  refine ⟨m1, v, b1, b2, t1, fun r2 h2 H2 => ?_⟩
  obtain ⟨m2, v2, d1, d2, t2, R2⟩ := K r2 h2 H2
  obtain ⟨u1, u2, u3, u4, u5, u6⟩ := e_X8_count t1 H2
  obtain ⟨_, f2⟩ := eng_m d2 u4 u5 u6
  exact ⟨m2, v2, d1, d2, t2, ⟨R2, SV_f (SV_f hS f1 (by decide +kernel)) f2 (by decide +kernel)⟩⟩
theorem ps_text {m : zM} {r : Option Value} {h' : zHp} (ht : zTy m) (hR : RS m) (H : zEv none 19 zm_X7_text (0, lv_args 0 [.ref 0], [], zhp m) r h') : ∃ m1 v, r = some (.int v) ∧ h' = zhp m1 ∧ zTy m1 ∧ ∀ r2 h2, zEv none 19 zm_X8_text (0, lv_args 0 [.ref 71], [], zhp m1) r2 h2 → ∃ m2 v2, r2 = some (.int v2) ∧ h2 = zhp m2 ∧ zTy m2 ∧ RS m2 ∧ v = v2 := by
  obtain ⟨hR1, hS⟩ := hR
  obtain ⟨n, hT⟩ := hR1.1.1
  obtain ⟨m3, x1, _, _, _, x3, K3⟩ := tx_pair ht hT H
  obtain ⟨m1, v, b1, b2, t1, K⟩ := pf_text ht hR1 H
  obtain ⟨q1, q2, q3, q4, q5, q6⟩ := e_X7_text ht H
  obtain ⟨_, f1⟩ := eng_m b2 q4 q5 q6
  have e13 : ∀ {k i : Nat}, zpl1 k i → m1 k i = m3 k i := fun hp => zhp_c b2 x1 hp
  refine ⟨m1, v, b1, b2, t1, fun r2 h2 H2 => ?_⟩
  obtain ⟨m2, v2, d1, d2, t2, R2, e⟩ := K r2 h2 H2
  obtain ⟨u1, u2, u3, u4, u5, u6⟩ := e_X8_text t1 H2
  obtain ⟨_, f2⟩ := eng_m d2 u4 u5 u6
  have hz : zhp m1 = zhp m3 := b2.symm.trans x1
  obtain ⟨m4, y1, _, _, _, y3⟩ := K3 r2 h2 (by rw [← hz]; exact H2)
  have e24 : ∀ {k i : Nat}, zpl1 k i → m2 k i = m4 k i := fun hp => zhp_c d2 y1 hp
  refine ⟨m2, v2, d1, d2, t2, ⟨R2, ?_⟩, e⟩
  cases hx : pTx (m 2) n 161 zP0 0 0 with
  | inl f =>
    rw [hx] at x3 y3
    refine SV_e hS (fun k i hk hi q => ?_)
    rw [Nat.blt_eq] at hk hi
    have h1 := List.all_eq_true.mp (List.all_eq_true.mp qSn_p k (List.mem_range.mpr hk)) i (List.mem_range.mpr hi)
    rw [q] at h1
    have hp : zpl1 k i := zplb_ok (by simpa using h1)
    simp only [qSn, Bool.or_eq_true, Bool.and_eq_true, Nat.beq_eq, Nat.blt_eq, Nat.ble_eq] at q
    rw [e24 hp, y3.2.2 k i (by omega) (by omega), x3.2.2 k i (by omega) (by omega)]
  | inr q =>
    rw [hx] at x3 y3
    obtain ⟨_, _, _, z4, _, _, _⟩ := x3
    obtain ⟨_, _, _, _, _, w6, _, _, w9⟩ := y3
    refine ⟨0, by omega, ?_, ?_, fun k hk => by omega⟩
    · rw [e24 ⟨_, LY_40, rfl⟩, w9 40 3 (by omega) (by omega) (by omega) (by omega)]; exact z4
    · rw [e24 ⟨_, LY_71, rfl⟩]; exact w6
theorem ps_forget {m : zM} {r : Option Value} {h' : zHp} {x0 : Int32} (ht : zTy m) (hR : RS m) (H : zEv none 19 zm_X7_forget (0, lv_args 0 [.ref 0, .int x0], [], zhp m) r h') : ∃ m1 v, r = some (.int v) ∧ h' = zhp m1 ∧ zTy m1 ∧ ∀ r2 h2, zEv none 19 zm_X8_forget (0, lv_args 0 [.ref 71, .int x0], [], zhp m1) r2 h2 → ∃ m2 v2, r2 = some (.int v2) ∧ h2 = zhp m2 ∧ zTy m2 ∧ RS m2 ∧ v = v2 := by
  obtain ⟨hR1, hS⟩ := hR
  have hS0 := hS
  obtain ⟨s, s1, s2, s3, s4⟩ := hS
  have hR2 := hR1
  obtain ⟨⟨_, _, _, _, c, c1, ⟨⟨a1, c5, _⟩, _⟩, _⟩, _⟩ := hR2
  obtain ⟨m1, v, b1, b2, t1, K⟩ := pf_forget ht hR1 H
  obtain ⟨m3, w, x1, x2, x3⟩ := t_X7_forget (zE_of 1 rfl H)
  obtain ⟨q1, q2, q3, q4, q5, q6⟩ := e_X7_forget ht H
  obtain ⟨t3, f1⟩ := eng_m x2 q4 q5 q6
  refine ⟨m1, v, b1, b2, t1, fun r2 h2 H2 => ?_⟩
  obtain ⟨m2, v2, d1, d2, t2, R2, e⟩ := K r2 h2 H2
  have hz : zhp m1 = zhp m3 := b2.symm.trans x2
  rw [hz] at H2
  have g0 : m3 71 23 = m 40 3 := (f1 71 23 ⟨_, LY_71, rfl⟩ (by decide +kernel)).trans (s3.trans s2.symm)
  obtain ⟨m4, w2, y1, y2, y3⟩ := t_X8_forget (zE_of 1 rfl H2)
  have e24 : ∀ {k i : Nat}, zpl1 k i → m2 k i = m4 k i := fun hp => zhp_c d2 y2 hp
  refine ⟨m2, v2, d1, d2, t2, ⟨R2, SV_e (m := m4) ?_ (fun k i hk hi q => ?_)⟩, e⟩
  · rcases x3 with ⟨o1, _, rfl⟩ | ⟨o1, _, rfl⟩
    · rcases y3 with ⟨_, _, rfl⟩ | ⟨o2, _⟩
      · exact hS0
      · exact absurd (by rw [g0] at o2; exact o2) o1
    · rcases y3 with ⟨o2, _⟩ | ⟨_, _, rfl⟩
      · exact absurd (by rw [g0]; exact o1) o2
      · obtain ⟨j, j1, rfl⟩ := zbt_n s2 (by omega) o1
        refine ⟨j, by omega, by rw [zup_n (by omega), zup_s], by rw [zup_s], fun k hk => ?_⟩
        rw [zup_n (by omega), zup_n (by omega), zup_n (by omega), zup_n (by omega), zup_n (by omega), zup_n (by omega), zup_n (by omega), zup_n (by omega)]
        exact s4 k (by omega)
  · rw [Nat.blt_eq] at hk hi
    have h1 := List.all_eq_true.mp (List.all_eq_true.mp qSn_p k (List.mem_range.mpr hk)) i (List.mem_range.mpr hi)
    rw [q] at h1
    exact e24 (zplb_ok (by simpa using h1))
theorem ps_see {m : zM} {r : Option Value} {h' : zHp} {x0 x1 : Int32} (ht : zTy m) (hR : RS m) (H : zEv none 19 zm_X7_see (0, lv_args 0 [.ref 0, .int x0, .int x1], [], zhp m) r h') : ∃ m1 v, r = some (.int v) ∧ h' = zhp m1 ∧ zTy m1 ∧ ∀ r2 h2, zEv none 19 zm_X8_see (0, lv_args 0 [.ref 71, .int x0, .int x1], [], zhp m1) r2 h2 → ∃ m2 v2, r2 = some (.int v2) ∧ h2 = zhp m2 ∧ zTy m2 ∧ RS m2 ∧ v = v2 := by
  obtain ⟨hR1, hS⟩ := hR
  have hS0 := hS
  obtain ⟨s, s1, s2, s3, s4⟩ := hS
  have hR2 := hR1
  obtain ⟨⟨_, _, _, _, c, c1, ⟨⟨a1, c5, _⟩, _⟩, _⟩, _⟩ := hR2
  obtain ⟨m1, v, b1, b2, t1, K⟩ := pf_see ht hR1 H
  obtain ⟨m3, w, x1, x2, x3⟩ := t_X7_see s2 s1 (zE_of 0 rfl H)
  obtain ⟨q1, q2, q3, q4, q5, q6⟩ := e_X7_see ht H
  obtain ⟨t3, f1⟩ := eng_m x2 q4 q5 q6
  refine ⟨m1, v, b1, b2, t1, fun r2 h2 H2 => ?_⟩
  obtain ⟨m2, v2, d1, d2, t2, R2, e⟩ := K r2 h2 H2
  have hz : zhp m1 = zhp m3 := b2.symm.trans x2
  rw [hz] at H2
  have g0 : m3 71 2 = Int32.ofNat c := (f1 71 2 ⟨_, LY_71, rfl⟩ (by decide +kernel)).trans c1
  have g1 : m3 71 23 = Int32.ofNat s := (f1 71 23 ⟨_, LY_71, rfl⟩ (by decide +kernel)).trans s3
  rw [a1] at x3
  rw [← g0] at x3
  obtain ⟨m4, w2, y1, y2, y3⟩ := t_X8_see g0 c5 g1 s1 (zE_of 0 rfl H2)
  have e24 : ∀ {k i : Nat}, zpl1 k i → m2 k i = m4 k i := fun hp => zhp_c d2 y2 hp
  refine ⟨m2, v2, d1, d2, t2, ⟨R2, SV_e (m := m4) ?_ (fun k i hk hi q => ?_)⟩, e⟩
  · rcases x3 with ⟨o1, _, rfl⟩ | ⟨o1, e8, _, rfl⟩ | ⟨o1, e8, _, rfl⟩
    · rcases y3 with ⟨_, _, rfl⟩ | ⟨o2, _⟩ | ⟨o2, _⟩
      · exact hS0
      · exact absurd o2 o1
      · exact absurd o2 o1
    · rcases y3 with ⟨o2, _⟩ | ⟨_, _, _, rfl⟩ | ⟨_, e9, _⟩
      · exact absurd o1 o2
      · exact hS0
      · omega
    · rcases y3 with ⟨o2, _⟩ | ⟨_, e9, _⟩ | ⟨_, _, _, rfl⟩
      · exact absurd o1 o2
      · omega
      · refine ⟨s + 1, by omega, by rw [zup_n (by omega), zup_n (by omega), zup_n (by omega), zup_s], by rw [zup_s], fun k hk => ?_⟩
        by_cases e : k = s
        · subst e
          refine ⟨?_, ?_⟩
          · rw [zup_n (by omega), zup_n (by omega), zup_n (by omega), zup_n (by omega), zup_n (by omega), zup_s, zup_n (by omega), zup_n (by omega), zup_s]
          · rw [zup_n (by omega), zup_n (by omega), zup_n (by omega), zup_n (by omega), zup_s, zup_n (by omega), zup_s]
        · rw [zup_n (by omega), zup_n (by omega), zup_n (by omega), zup_n (by omega), zup_n (by omega), zup_n (by omega), zup_n (by omega), zup_n (by omega), zup_n (by omega), zup_n (by omega), zup_n (by omega), zup_n (by omega), zup_n (by omega), zup_n (by omega), zup_n (by omega), zup_n (by omega), zup_n (by omega), zup_n (by omega), zup_n (by omega), zup_n (by omega), zup_n (by omega), zup_n (by omega), zup_n (by omega), zup_n (by omega)]
          exact s4 k (by omega)
  · rw [Nat.blt_eq] at hk hi
    have h1 := List.all_eq_true.mp (List.all_eq_true.mp qSn_p k (List.mem_range.mpr hk)) i (List.mem_range.mpr hi)
    rw [q] at h1
    exact e24 (zplb_ok (by simpa using h1))
def gFt (E sa sw : Nat → Int32) : Nat → Nat → Bool
  | 0, _ => true
  | j + 1, i => decide (E (sa i).toNatClampNeg = sw i) && gFt E sa sw j (i + 1)
def cS (m : zM) (s : Nat) (sa sw : Nat → Int32) : Prop := s ≤ 6 ∧ m 40 3 = Int32.ofNat s ∧ ∀ k, k < s → m 41 k = sa k ∧ m 42 k = sw k
def rS (m : zM) (s : Nat) (sa sw : Nat → Int32) : Prop := s ≤ 6 ∧ m 71 23 = Int32.ofNat s ∧ ∀ k, k < s → m 79 (2 * k) = sa k ∧ m 79 (2 * k + 1) = sw k
theorem cS_f {m m1 : zM} {s : Nat} {sa sw : Nat → Int32} (h : cS m s sa sw) (hf : ∀ a b, 40 ≤ a → a ≤ 42 → m1 a b = m a b) : cS m1 s sa sw := ⟨h.1, by rw [hf _ _ (by omega) (by omega)]; exact h.2.1, fun k hk => by rw [hf _ _ (by omega) (by omega), hf _ _ (by omega) (by omega)]; exact h.2.2 k hk⟩
theorem rS_f {m m1 : zM} {s : Nat} {sa sw : Nat → Int32} (h : rS m s sa sw) (h1 : m1 71 23 = m 71 23) (hf : ∀ b, m1 79 b = m 79 b) : rS m1 s sa sw := ⟨h.1, by rw [h1]; exact h.2.1, fun k hk => by rw [hf, hf]; exact h.2.2 k hk⟩
theorem ft_loop {m : zM} {s : Nat} {E sa sw : Nat → Int32} (hS : cS m s sa sw) (hE : ∀ i, i < 8 → m 28 i = E i) : ∀ (j i d : Nat) (r : Option Value) (h' : zHp), i + j = s → zE none d zm_X6_fits 2 [.ref 40, .ref 19, .int (Int32.ofNat i)] [] m r h' → r = some (.int (if gFt E sa sw j i = true then 1 else 0)) ∧ h' = zhp m := by
  intro j
  induction j with
  | zero =>
    intro i d r h' hj H
    have hs6 := hS.1
    replace H := i_iln (q := 3) H I_X6_fits_2 rfl rfl
    replace H := i_aln (q := 4) H I_X6_fits_3 rfl rfl
    replace H := i_gfi (q := 7) H I_X6_fits_4 G_6_21 cn_X6_fits LY_40 rfl rfl
    have W := i_ic_ge (t := 38) (q := 10) H I_X6_fits_7 (by decide) rfl
    clear H
    rcases W with ⟨c_7, H⟩ | ⟨c_7, H⟩
    · skip
      replace H := i_icst (x := 1) (q := 39) H I_X6_fits_38 (by decide) rfl
      obtain ⟨hr, hh⟩ := i_ir H I_X6_fits_39
      exact ⟨hr, hh⟩
    · exfalso
      rw [hS.2.1] at c_7
      exact absurd ((zofn_lt (by omega) (by omega)).mp c_7) (by omega)
  | succ j ih =>
    intro i d r h' hj H
    have hs6 := hS.1
    replace H := i_iln (q := 3) H I_X6_fits_2 rfl rfl
    replace H := i_aln (q := 4) H I_X6_fits_3 rfl rfl
    replace H := i_gfi (q := 7) H I_X6_fits_4 G_6_21 cn_X6_fits LY_40 rfl rfl
    have W := i_ic_ge (t := 38) (q := 10) H I_X6_fits_7 (by decide) rfl
    clear H
    rcases W with ⟨c_7, H⟩ | ⟨c_7, H⟩
    · exfalso
      rw [hS.2.1] at c_7
      exact c_7 ((zofn_lt (by omega) (by omega)).mpr (by omega))
    · skip
      replace H := i_aln (q := 11) H I_X6_fits_10 rfl rfl
      replace H := i_gfr (q := 14) H I_X6_fits_11 G_6_25 cn_X6_fits LY_19 rfl rfl
      replace H := i_aln (q := 15) H I_X6_fits_14 rfl rfl
      replace H := i_gfr (q := 18) H I_X6_fits_15 G_6_9 cn_X6_fits LY_40 rfl rfl
      replace H := i_iln (q := 19) H I_X6_fits_18 rfl rfl
      have W := i_ia (q := 20) H I_X6_fits_19 LY_41 rfl
      clear H
      obtain ⟨i_19, bi_19, ei_19, H⟩ := W
      have W := i_ia (q := 21) H I_X6_fits_20 LY_28 rfl
      clear H
      obtain ⟨i_20, bi_20, ei_20, H⟩ := W
      replace H := i_aln (q := 22) H I_X6_fits_21 rfl rfl
      replace H := i_gfr (q := 25) H I_X6_fits_22 G_6_15 cn_X6_fits LY_40 rfl rfl
      replace H := i_iln (q := 26) H I_X6_fits_25 rfl rfl
      have W := i_ia (q := 27) H I_X6_fits_26 LY_42 rfl
      clear H
      obtain ⟨i_26, bi_26, ei_26, H⟩ := W
      have W := i_ic_eq (t := 32) (q := 30) H I_X6_fits_27 (by decide) rfl
      clear H
      rcases W with ⟨c_27, H⟩ | ⟨c_27, H⟩
      · skip
        replace H := i_inc (q := 35) H I_X6_fits_32 rfl rfl rfl
        replace H := i_goto (q := 2) H I_X6_fits_35 (by decide)
        have e1 : i = i_19 := zofn ei_19 (by omega) (by omega)
        subst e1
        have e2 : i = i_26 := zofn ei_26 (by omega) (by omega)
        subst e2
        obtain ⟨k1, k2⟩ := hS.2.2 i (by omega)
        rw [k1] at ei_20
        have e3 : (sa i).toNatClampNeg = i_20 := by rw [ei_20, Int32.toNatClampNeg_ofNat_of_lt (by omega)]
        rw [k2, hE i_20 bi_20] at c_27
        replace H : zE none d zm_X6_fits 2 [.ref 40, .ref 19, .int (Int32.ofNat (i + 1))] [] m r h' := by
          rw [← zofn_s]
          exact H
        rw [gFt, e3, decide_eq_true c_27, Bool.true_and]
        exact ih (i + 1) d r h' (by omega) H
      · skip
        replace H := i_icst (x := 0) (q := 31) H I_X6_fits_30 (by decide) rfl
        obtain ⟨hr, hh⟩ := i_ir H I_X6_fits_31
        have e1 : i = i_19 := zofn ei_19 (by omega) (by omega)
        subst e1
        have e2 : i = i_26 := zofn ei_26 (by omega) (by omega)
        subst e2
        obtain ⟨k1, k2⟩ := hS.2.2 i (by omega)
        rw [k1] at ei_20
        have e3 : (sa i).toNatClampNeg = i_20 := by rw [ei_20, Int32.toNatClampNeg_ofNat_of_lt (by omega)]
        rw [k2, hE i_20 bi_20] at c_27
        rw [gFt, e3, decide_eq_false c_27, Bool.false_and]
        exact ⟨hr, hh⟩
theorem t_X6_fits {d : Nat} {m : zM} {r : Option Value} {h' : zHp} {s : Nat} {E sa sw : Nat → Int32} (hS : cS m s sa sw) (hE : ∀ i, i < 8 → m 28 i = E i) (H : zE none d zm_X6_fits 0 [.ref 40, .ref 19, .null] [] m r h') : r = some (.int (if gFt E sa sw s 0 = true then 1 else 0)) ∧ h' = zhp m := by
  replace H := i_icst (x := 0) (q := 1) H I_X6_fits_0 (by decide) rfl
  replace H := i_isn (q := 2) H I_X6_fits_1 rfl rfl
  exact ft_loop hS hE s 0 d r h' (by omega) H
theorem iz_loop {m : zM} {s : Nat} {E sa sw : Nat → Int32} (hS : rS m s sa sw) (hE : ∀ i, i < 8 → m 78 i = E i) : ∀ (j i : Nat) (b : Bool) (d : Nat) (r : Option Value) (h' : zHp), i + j = s → zE none d zm_X8_isAsSeen 4 [.ref 71, .int (if b = true then 1 else 0), .int (Int32.ofNat i)] [] m r h' → r = some (.int (if (b && gFt E sa sw j i) = true then 1 else 0)) ∧ h' = zhp m := by
  intro j
  induction j with
  | zero =>
    intro i b d r h' hj H
    have hs6 := hS.1
    cases b with
    | false =>
      replace H := i_iln (q := 5) H I_X8_isAsSeen_4 rfl rfl
      replace H := i_aln (q := 6) H I_X8_isAsSeen_5 rfl rfl
      replace H := i_gfi (q := 9) H I_X8_isAsSeen_6 G_8_134 cn_X8_isAsSeen LY_71 rfl rfl
      have W := i_ic_ge (t := 54) (q := 12) H I_X8_isAsSeen_9 (by decide) rfl
      clear H
      rcases W with ⟨c_9, H⟩ | ⟨c_9, H⟩
      · skip
        replace H := i_iln (q := 55) H I_X8_isAsSeen_54 rfl rfl
        obtain ⟨hr, hh⟩ := i_ir H I_X8_isAsSeen_55
        exact ⟨hr, hh⟩
      · exfalso
        rw [hS.2.1] at c_9
        exact absurd ((zofn_lt (by omega) (by omega)).mp c_9) (by omega)
    | true =>
      replace H := i_iln (q := 5) H I_X8_isAsSeen_4 rfl rfl
      replace H := i_aln (q := 6) H I_X8_isAsSeen_5 rfl rfl
      replace H := i_gfi (q := 9) H I_X8_isAsSeen_6 G_8_134 cn_X8_isAsSeen LY_71 rfl rfl
      have W := i_ic_ge (t := 54) (q := 12) H I_X8_isAsSeen_9 (by decide) rfl
      clear H
      rcases W with ⟨c_9, H⟩ | ⟨c_9, H⟩
      · skip
        replace H := i_iln (q := 55) H I_X8_isAsSeen_54 rfl rfl
        obtain ⟨hr, hh⟩ := i_ir H I_X8_isAsSeen_55
        exact ⟨hr, hh⟩
      · exfalso
        rw [hS.2.1] at c_9
        exact absurd ((zofn_lt (by omega) (by omega)).mp c_9) (by omega)
  | succ j ih =>
    intro i b d r h' hj H
    have hs6 := hS.1
    cases b with
    | false =>
      replace H := i_iln (q := 5) H I_X8_isAsSeen_4 rfl rfl
      replace H := i_aln (q := 6) H I_X8_isAsSeen_5 rfl rfl
      replace H := i_gfi (q := 9) H I_X8_isAsSeen_6 G_8_134 cn_X8_isAsSeen LY_71 rfl rfl
      have W := i_ic_ge (t := 54) (q := 12) H I_X8_isAsSeen_9 (by decide) rfl
      clear H
      rcases W with ⟨c_9, H⟩ | ⟨c_9, H⟩
      · exfalso
        rw [hS.2.1] at c_9
        exact c_9 ((zofn_lt (by omega) (by omega)).mpr (by omega))
      · skip
        replace H := i_iln (q := 13) H I_X8_isAsSeen_12 rfl rfl
        have W := i_if_eq (t := 46) (q := 16) H I_X8_isAsSeen_13 (by decide) rfl
        clear H
        rcases W with ⟨c_13, H⟩ | ⟨c_13, H⟩
        · skip
          replace H := i_icst (x := 0) (q := 47) H I_X8_isAsSeen_46 (by decide) rfl
          replace H := i_isn (q := 48) H I_X8_isAsSeen_47 rfl rfl
          replace H := i_inc (q := 51) H I_X8_isAsSeen_48 rfl rfl rfl
          replace H := i_goto (q := 4) H I_X8_isAsSeen_51 (by decide)
          replace H : zE none d zm_X8_isAsSeen 4 [.ref 71, .int (if false = true then 1 else 0), .int (Int32.ofNat (i + 1))] [] m r h' := by
            rw [← zofn_s]
            exact H
          have h := ih (i + 1) false d r h' (by omega) H
          rw [Bool.false_and] at h ⊢
          exact h
        · skip
          replace H := i_aln (q := 17) H I_X8_isAsSeen_16 rfl rfl
          replace H := i_gfr (q := 20) H I_X8_isAsSeen_17 G_8_28 cn_X8_isAsSeen LY_71 rfl rfl
          replace H := i_aln (q := 21) H I_X8_isAsSeen_20 rfl rfl
          replace H := i_gfr (q := 24) H I_X8_isAsSeen_21 G_8_31 cn_X8_isAsSeen LY_71 rfl rfl
          replace H := i_icst (x := 2) (q := 25) H I_X8_isAsSeen_24 (by decide) rfl
          replace H := i_iln (q := 26) H I_X8_isAsSeen_25 rfl rfl
          replace H := i_imul (q := 27) H I_X8_isAsSeen_26 rfl
          have W := i_ia (q := 28) H I_X8_isAsSeen_27 LY_79 rfl
          clear H
          obtain ⟨i_27, bi_27, ei_27, H⟩ := W
          have W := i_ia (q := 29) H I_X8_isAsSeen_28 LY_78 rfl
          clear H
          obtain ⟨i_28, bi_28, ei_28, H⟩ := W
          replace H := i_aln (q := 30) H I_X8_isAsSeen_29 rfl rfl
          replace H := i_gfr (q := 33) H I_X8_isAsSeen_30 G_8_31 cn_X8_isAsSeen LY_71 rfl rfl
          replace H := i_icst (x := 2) (q := 34) H I_X8_isAsSeen_33 (by decide) rfl
          replace H := i_iln (q := 35) H I_X8_isAsSeen_34 rfl rfl
          replace H := i_imul (q := 36) H I_X8_isAsSeen_35 rfl
          replace H := i_icst (x := 1) (q := 37) H I_X8_isAsSeen_36 (by decide) rfl
          replace H := i_iadd (q := 38) H I_X8_isAsSeen_37 rfl
          have W := i_ia (q := 39) H I_X8_isAsSeen_38 LY_79 rfl
          clear H
          obtain ⟨i_38, bi_38, ei_38, H⟩ := W
          have W := i_ic_ne (t := 46) (q := 42) H I_X8_isAsSeen_39 (by decide) rfl
          clear H
          rcases W with ⟨c_39, H⟩ | ⟨c_39, H⟩
          · skip
            replace H := i_icst (x := 0) (q := 47) H I_X8_isAsSeen_46 (by decide) rfl
            replace H := i_isn (q := 48) H I_X8_isAsSeen_47 rfl rfl
            replace H := i_inc (q := 51) H I_X8_isAsSeen_48 rfl rfl rfl
            replace H := i_goto (q := 4) H I_X8_isAsSeen_51 (by decide)
            exact absurd rfl c_13
          · skip
            replace H := i_icst (x := 1) (q := 43) H I_X8_isAsSeen_42 (by decide) rfl
            replace H := i_goto (q := 47) H I_X8_isAsSeen_43 (by decide)
            replace H := i_isn (q := 48) H I_X8_isAsSeen_47 rfl rfl
            replace H := i_inc (q := 51) H I_X8_isAsSeen_48 rfl rfl rfl
            replace H := i_goto (q := 4) H I_X8_isAsSeen_51 (by decide)
            exact absurd rfl c_13
    | true =>
      replace H := i_iln (q := 5) H I_X8_isAsSeen_4 rfl rfl
      replace H := i_aln (q := 6) H I_X8_isAsSeen_5 rfl rfl
      replace H := i_gfi (q := 9) H I_X8_isAsSeen_6 G_8_134 cn_X8_isAsSeen LY_71 rfl rfl
      have W := i_ic_ge (t := 54) (q := 12) H I_X8_isAsSeen_9 (by decide) rfl
      clear H
      rcases W with ⟨c_9, H⟩ | ⟨c_9, H⟩
      · exfalso
        rw [hS.2.1] at c_9
        exact c_9 ((zofn_lt (by omega) (by omega)).mpr (by omega))
      · skip
        replace H := i_iln (q := 13) H I_X8_isAsSeen_12 rfl rfl
        have W := i_if_eq (t := 46) (q := 16) H I_X8_isAsSeen_13 (by decide) rfl
        clear H
        rcases W with ⟨c_13, H⟩ | ⟨c_13, H⟩
        · skip
          replace H := i_icst (x := 0) (q := 47) H I_X8_isAsSeen_46 (by decide) rfl
          replace H := i_isn (q := 48) H I_X8_isAsSeen_47 rfl rfl
          replace H := i_inc (q := 51) H I_X8_isAsSeen_48 rfl rfl rfl
          replace H := i_goto (q := 4) H I_X8_isAsSeen_51 (by decide)
          exact absurd c_13 (by decide)
        · skip
          replace H := i_aln (q := 17) H I_X8_isAsSeen_16 rfl rfl
          replace H := i_gfr (q := 20) H I_X8_isAsSeen_17 G_8_28 cn_X8_isAsSeen LY_71 rfl rfl
          replace H := i_aln (q := 21) H I_X8_isAsSeen_20 rfl rfl
          replace H := i_gfr (q := 24) H I_X8_isAsSeen_21 G_8_31 cn_X8_isAsSeen LY_71 rfl rfl
          replace H := i_icst (x := 2) (q := 25) H I_X8_isAsSeen_24 (by decide) rfl
          replace H := i_iln (q := 26) H I_X8_isAsSeen_25 rfl rfl
          replace H := i_imul (q := 27) H I_X8_isAsSeen_26 rfl
          have W := i_ia (q := 28) H I_X8_isAsSeen_27 LY_79 rfl
          clear H
          obtain ⟨i_27, bi_27, ei_27, H⟩ := W
          have W := i_ia (q := 29) H I_X8_isAsSeen_28 LY_78 rfl
          clear H
          obtain ⟨i_28, bi_28, ei_28, H⟩ := W
          replace H := i_aln (q := 30) H I_X8_isAsSeen_29 rfl rfl
          replace H := i_gfr (q := 33) H I_X8_isAsSeen_30 G_8_31 cn_X8_isAsSeen LY_71 rfl rfl
          replace H := i_icst (x := 2) (q := 34) H I_X8_isAsSeen_33 (by decide) rfl
          replace H := i_iln (q := 35) H I_X8_isAsSeen_34 rfl rfl
          replace H := i_imul (q := 36) H I_X8_isAsSeen_35 rfl
          replace H := i_icst (x := 1) (q := 37) H I_X8_isAsSeen_36 (by decide) rfl
          replace H := i_iadd (q := 38) H I_X8_isAsSeen_37 rfl
          have W := i_ia (q := 39) H I_X8_isAsSeen_38 LY_79 rfl
          clear H
          obtain ⟨i_38, bi_38, ei_38, H⟩ := W
          have W := i_ic_ne (t := 46) (q := 42) H I_X8_isAsSeen_39 (by decide) rfl
          clear H
          rcases W with ⟨c_39, H⟩ | ⟨c_39, H⟩
          · skip
            replace H := i_icst (x := 0) (q := 47) H I_X8_isAsSeen_46 (by decide) rfl
            replace H := i_isn (q := 48) H I_X8_isAsSeen_47 rfl rfl
            replace H := i_inc (q := 51) H I_X8_isAsSeen_48 rfl rfl rfl
            replace H := i_goto (q := 4) H I_X8_isAsSeen_51 (by decide)
            have x1 : i_27 = 2 * i := (zofn (by rw [Int32.ofNat_mul]; exact ei_27) (by omega) (by omega)).symm
            subst x1
            have x2 : i_38 = 2 * i + 1 := (zofn (by rw [Int32.ofNat_add, Int32.ofNat_mul]; exact ei_38) (by omega) (by omega)).symm
            subst x2
            obtain ⟨k1, k2⟩ := hS.2.2 i (by omega)
            rw [k1] at ei_28
            have e3 : (sa i).toNatClampNeg = i_28 := by rw [ei_28, Int32.toNatClampNeg_ofNat_of_lt (by omega)]
            rw [k2, hE i_28 bi_28] at c_39
            replace H : zE none d zm_X8_isAsSeen 4 [.ref 71, .int (if false = true then 1 else 0), .int (Int32.ofNat (i + 1))] [] m r h' := by
              rw [← zofn_s]
              exact H
            have h := ih (i + 1) false d r h' (by omega) H
            rw [gFt, e3, decide_eq_false c_39, Bool.false_and, Bool.and_false]
            rw [Bool.false_and] at h
            exact h
          · skip
            replace H := i_icst (x := 1) (q := 43) H I_X8_isAsSeen_42 (by decide) rfl
            replace H := i_goto (q := 47) H I_X8_isAsSeen_43 (by decide)
            replace H := i_isn (q := 48) H I_X8_isAsSeen_47 rfl rfl
            replace H := i_inc (q := 51) H I_X8_isAsSeen_48 rfl rfl rfl
            replace H := i_goto (q := 4) H I_X8_isAsSeen_51 (by decide)
            have x1 : i_27 = 2 * i := (zofn (by rw [Int32.ofNat_mul]; exact ei_27) (by omega) (by omega)).symm
            subst x1
            have x2 : i_38 = 2 * i + 1 := (zofn (by rw [Int32.ofNat_add, Int32.ofNat_mul]; exact ei_38) (by omega) (by omega)).symm
            subst x2
            obtain ⟨k1, k2⟩ := hS.2.2 i (by omega)
            rw [k1] at ei_28
            have e3 : (sa i).toNatClampNeg = i_28 := by rw [ei_28, Int32.toNatClampNeg_ofNat_of_lt (by omega)]
            rw [k2, hE i_28 bi_28] at c_39
            replace H : zE none d zm_X8_isAsSeen 4 [.ref 71, .int (if true = true then 1 else 0), .int (Int32.ofNat (i + 1))] [] m r h' := by
              rw [← zofn_s]
              exact H
            have h := ih (i + 1) true d r h' (by omega) H
            rw [gFt, e3, decide_eq_true c_39, Bool.true_and]
            exact h
theorem t_X8_isAsSeen {d : Nat} {m : zM} {r : Option Value} {h' : zHp} {s : Nat} {E sa sw : Nat → Int32} (hS : rS m s sa sw) (hE : ∀ i, i < 8 → m 78 i = E i) (H : zE none d zm_X8_isAsSeen 0 [.ref 71, .null, .null] [] m r h') : r = some (.int (if gFt E sa sw s 0 = true then 1 else 0)) ∧ h' = zhp m := by
  replace H := i_icst (x := 1) (q := 1) H I_X8_isAsSeen_0 (by decide) rfl
  replace H := i_isn (q := 2) H I_X8_isAsSeen_1 rfl rfl
  replace H := i_icst (x := 0) (q := 3) H I_X8_isAsSeen_2 (by decide) rfl
  replace H := i_isn (q := 4) H I_X8_isAsSeen_3 rfl rfl
  exact iz_loop hS hE s 0 true d r h' (by omega) H
def gSf (c : Nat) (g sa sw : Nat → Int32) (s i : Nat) : Bool := gFt (gPl c (gset g 16 (Int32.ofNat i - 1))).2.2.2.2 sa sw s 0
def gSk (f : Nat → Bool) : Nat → Nat → Int32 → Int32
  | 0, _, b => b
  | j + 1, i, b => if f i = true then gSk f j (i + 1) (b ||| (1 <<< (Int32.ofNat i &&& 31))) else gSk f j (i + 1) b
theorem sk_7 {c s : Nat} {g sa sw : Nat → Int32} (hg : gok g c) : ∀ (j i : Nat) (b : Int32) (d : Nat) (r : Option Value) (h' : zHp) (m : zM), i + j = 10 → LV m 11 c g → cS m s sa sw → zE none d zm_X7_slacks 4 [.ref 0, .int b, .int (Int32.ofNat i)] [] m r h' → r = some (.int (gSk (gSf c g sa sw s) j i b)) := by
  intro j
  induction j with
  | zero =>
    intro i b d r h' m hj hL hS H
    replace H := i_iln (q := 5) H I_X7_slacks_4 rfl rfl
    replace H := i_bip (x := 9) (q := 7) H I_X7_slacks_5 (by decide) rfl
    have W := i_ic_gt (t := 41) (q := 10) H I_X7_slacks_7 (by decide) rfl
    clear H
    rcases W with ⟨c_7, H⟩ | ⟨c_7, H⟩
    · skip
      replace H := i_iln (q := 42) H I_X7_slacks_41 rfl rfl
      obtain ⟨hr, hh⟩ := i_ir H I_X7_slacks_42
      exact hr
    · exfalso
      exact c_7 ((zofn_lt (i := 9) (by decide) (by omega)).mpr (by omega))
  | succ j ih =>
    intro i b d r h' m hj hL hS H
    replace H := i_iln (q := 5) H I_X7_slacks_4 rfl rfl
    replace H := i_bip (x := 9) (q := 7) H I_X7_slacks_5 (by decide) rfl
    have W := i_ic_gt (t := 41) (q := 10) H I_X7_slacks_7 (by decide) rfl
    clear H
    rcases W with ⟨c_7, H⟩ | ⟨c_7, H⟩
    · exfalso
      exact absurd ((zofn_lt (i := 9) (by decide) (by omega)).mp c_7) (by omega)
    · skip
      replace H := i_aln (q := 11) H I_X7_slacks_10 rfl rfl
      replace H := i_iln (q := 12) H I_X7_slacks_11 rfl rfl
      have W := i_cv1 0 (q := 15) H I_X7_slacks_12 K_7_214 Zm_91 rfl rfl
      clear H
      obtain ⟨r1, h1, Hc, K1, K2⟩ := W
      obtain ⟨M_12, e1, e2, F_12⟩ := t_X7_rehearseSlack hL hg Hc
      have H := K2 _ e1 e2
      clear e1 e2 Hc K1 K2
      replace H := i_aln (q := 16) H I_X7_slacks_15 rfl rfl
      replace H := i_gfr (q := 19) H I_X7_slacks_16 G_7_40 cn_X7_slacks LY_0 rfl rfl
      replace H := i_aln (q := 20) H I_X7_slacks_19 rfl rfl
      replace H := i_gfr (q := 23) H I_X7_slacks_20 G_7_26 cn_X7_slacks LY_0 rfl rfl
      have W := i_cv1 1 (q := 26) H I_X7_slacks_23 K_7_243 Zm_60 rfl rfl
      clear H
      obtain ⟨r1, h1, Hc, K1, K2⟩ := W
      obtain ⟨e1, e2⟩ := t_X6_fits (cS_f hS (fun a b h1 h2 => F_12.2 a b (by omega))) F_12.1.2.2.2.2 Hc
      have H := K1 _ _ e1 e2
      clear e1 e2 Hc K1 K2
      have W := i_if_eq (t := 35) (q := 29) H I_X7_slacks_26 (by decide) rfl
      clear H
      rcases W with ⟨c_26, H⟩ | ⟨c_26, H⟩
      · skip
        replace H := i_inc (q := 38) H I_X7_slacks_35 rfl rfl rfl
        replace H := i_goto (q := 4) H I_X7_slacks_38 (by decide)
        have hf : ¬ gSf c g sa sw s i = true := zif0 c_26
        replace H : zE none d zm_X7_slacks 4 [.ref 0, .int b, .int (Int32.ofNat (i + 1))] [] M_12 r h' := by
          rw [← zofn_s]
          exact H
        rw [gSk, if_neg hf]
        exact ih (i + 1) b d r h' M_12 (by omega) (LV_f hL (fun a b h1 h2 => F_12.2 a b (by omega))) (cS_f hS (fun a b h1 h2 => F_12.2 a b (by omega))) H
      · skip
        replace H := i_iln (q := 30) H I_X7_slacks_29 rfl rfl
        replace H := i_icst (x := 1) (q := 31) H I_X7_slacks_30 (by decide) rfl
        replace H := i_iln (q := 32) H I_X7_slacks_31 rfl rfl
        replace H := i_ishl (q := 33) H I_X7_slacks_32 rfl
        replace H := i_ior (q := 34) H I_X7_slacks_33 rfl
        replace H := i_isn (q := 35) H I_X7_slacks_34 rfl rfl
        replace H := i_inc (q := 38) H I_X7_slacks_35 rfl rfl rfl
        replace H := i_goto (q := 4) H I_X7_slacks_38 (by decide)
        have hf : gSf c g sa sw s i = true := zif1 c_26
        replace H : zE none d zm_X7_slacks 4 [.ref 0, .int (b ||| (1 <<< (Int32.ofNat i &&& 31))), .int (Int32.ofNat (i + 1))] [] M_12 r h' := by
          rw [← zofn_s]
          exact H
        rw [gSk, if_pos hf]
        exact ih (i + 1) (b ||| (1 <<< (Int32.ofNat i &&& 31))) d r h' M_12 (by omega) (LV_f hL (fun a b h1 h2 => F_12.2 a b (by omega))) (cS_f hS (fun a b h1 h2 => F_12.2 a b (by omega))) H
theorem t_X7_slacks {d : Nat} {m : zM} {r : Option Value} {h' : zHp} {c s : Nat} {g sa sw : Nat → Int32} (hL : LV m 11 c g) (hg : gok g c) (hS : cS m s sa sw) (H : zE none d zm_X7_slacks 0 [.ref 0, .null, .null] [] m r h') : r = some (.int (gSk (gSf c g sa sw s) 10 0 0)) := by
  replace H := i_icst (x := 0) (q := 1) H I_X7_slacks_0 (by decide) rfl
  replace H := i_isn (q := 2) H I_X7_slacks_1 rfl rfl
  replace H := i_icst (x := 0) (q := 3) H I_X7_slacks_2 (by decide) rfl
  replace H := i_isn (q := 4) H I_X7_slacks_3 rfl rfl
  exact sk_7 hg 10 0 0 d r h' m rfl hL hS H
theorem sk_8 {c a : Nat} {g : Nat → Int32} (hg : gok g c) (hpl : gpl g) (ha : g 26 = Int32.ofNat a) (ha8 : a ≤ 8) {s : Nat} {sa sw : Nat → Int32} : ∀ (j i : Nat) (b : Int32) (d : Nat) (r : Option Value) (h' : zHp) (m : zM), i + j = 10 → PG m 0 g → m 71 2 = Int32.ofNat c → zMk m → rS m s sa sw → zE none d zm_X8_slacks 4 [.ref 71, .int b, .int (Int32.ofNat i)] [] m r h' → r = some (.int (gSk (gSf c g sa sw s) j i b)) := by
  intro j
  induction j with
  | zero =>
    intro i b d r h' m hj hP hc hM hS H
    replace H := i_iln (q := 5) H I_X8_slacks_4 rfl rfl
    replace H := i_bip (x := 10) (q := 7) H I_X8_slacks_5 (by decide) rfl
    have W := i_ic_ge (t := 55) (q := 10) H I_X8_slacks_7 (by decide) rfl
    clear H
    rcases W with ⟨c_7, H⟩ | ⟨c_7, H⟩
    · skip
      replace H := i_iln (q := 56) H I_X8_slacks_55 rfl rfl
      obtain ⟨hr, hh⟩ := i_ir H I_X8_slacks_56
      exact hr
    · exfalso
      exact absurd ((zofn_lt (j := 10) (by omega) (by decide)).mp c_7) (by omega)
  | succ j ih =>
    intro i b d r h' m hj hP hc hM hS H
    replace H := i_iln (q := 5) H I_X8_slacks_4 rfl rfl
    replace H := i_bip (x := 10) (q := 7) H I_X8_slacks_5 (by decide) rfl
    have W := i_ic_ge (t := 55) (q := 10) H I_X8_slacks_7 (by decide) rfl
    clear H
    rcases W with ⟨c_7, H⟩ | ⟨c_7, H⟩
    · exfalso
      exact c_7 ((zofn_lt (j := 10) (by omega) (by decide)).mpr (by omega))
    · skip
      replace H := i_aln (q := 11) H I_X8_slacks_10 rfl rfl
      replace H := i_icst (x := 0) (q := 12) H I_X8_slacks_11 (by decide) rfl
      replace H := i_bip (x := 108) (q := 14) H I_X8_slacks_12 (by decide) rfl
      have W := i_cv2 1 (q := 17) H I_X8_slacks_14 K_8_188 Zm_147 rfl rfl
      clear H
      obtain ⟨r1, h1, Hc, K1, K2⟩ := W
      obtain ⟨M_14, e1, e2, F_14⟩ := t_X8_copies (f := 0) (t := 108) rfl rfl (by omega) (by omega) (by omega) Hc
      have H := K2 _ e1 e2
      clear e1 e2 Hc K1 K2
      replace H := i_aln (q := 18) H I_X8_slacks_17 rfl rfl
      replace H := i_gfr (q := 21) H I_X8_slacks_18 G_8_7 cn_X8_slacks LY_71 rfl rfl
      replace H := i_bip (x := 124) (q := 23) H I_X8_slacks_21 (by decide) rfl
      replace H := i_iln (q := 24) H I_X8_slacks_23 rfl rfl
      replace H := i_icst (x := 1) (q := 25) H I_X8_slacks_24 (by decide) rfl
      replace H := i_isub (q := 26) H I_X8_slacks_25 rfl
      have W := i_iast (q := 27) H I_X8_slacks_26 LY_72 rfl
      clear H
      obtain ⟨i_26, bi_26, ei_26, H⟩ := W
      replace H := i_aln (q := 28) H I_X8_slacks_27 rfl rfl
      replace H := i_icst (x := 0) (q := 29) H I_X8_slacks_28 (by decide) rfl
      have W := i_cv1 2 (q := 32) H I_X8_slacks_29 K_8_192 Zm_148 rfl rfl
      clear H
      obtain ⟨r1, h1, Hc, K1, K2⟩ := W
      have e26 : i_26 = 108 + 16 := (zofn (i := 124) ei_26 (by decide) (by omega)).symm
      subst e26
      obtain ⟨M_29, e1, e2, F_29⟩ := t_goes0 (PG_up (PG_cp hP F_14) (by omega)) (gok_s hg (by omega) (by omega)) ((gset_n (by omega)).trans ha) ha8 (gpl_s hpl (by omega)) ((zup_n (by omega)).trans ((F_14.2 71 2 (by omega)).trans hc)) (zMk_f hM (fun b => (zup_n (by omega)).trans (F_14.2 73 b (by omega)))) Hc
      have H := K2 _ e1 e2
      clear e1 e2 Hc K1 K2
      replace H := i_iln (q := 33) H I_X8_slacks_32 rfl rfl
      replace H := i_aln (q := 34) H I_X8_slacks_33 rfl rfl
      have W := i_cv0 2 (q := 37) H I_X8_slacks_34 K_8_232 Zm_169 rfl rfl
      clear H
      obtain ⟨r1, h1, Hc, K1, K2⟩ := W
      obtain ⟨e1, e2⟩ := t_X8_isAsSeen (rS_f hS ((F_29.2 71 23 (by omega) (by omega) (by omega)).trans ((zup_n (by omega)).trans (F_14.2 71 23 (by omega)))) (fun b => (F_29.2 79 b (by omega) (by omega) (by omega)).trans ((zup_n (by omega)).trans (F_14.2 79 b (by omega))))) F_29.1.2.2.2.2 Hc
      have H := K1 _ _ e1 e2
      clear e1 e2 Hc K1 K2
      have W := i_if_eq (t := 46) (q := 40) H I_X8_slacks_37 (by decide) rfl
      clear H
      rcases W with ⟨c_37, H⟩ | ⟨c_37, H⟩
      · skip
        replace H := i_icst (x := 0) (q := 47) H I_X8_slacks_46 (by decide) rfl
        replace H := i_ior (q := 48) H I_X8_slacks_47 rfl
        replace H := i_isn (q := 49) H I_X8_slacks_48 rfl rfl
        replace H := i_inc (q := 52) H I_X8_slacks_49 rfl rfl rfl
        replace H := i_goto (q := 4) H I_X8_slacks_52 (by decide)
        have hf : ¬ gSf c g sa sw s i = true := zif0 c_37
        rw [Int32.or_zero] at H
        replace H : zE none d zm_X8_slacks 4 [.ref 71, .int b, .int (Int32.ofNat (i + 1))] [] M_29 r h' := by
          rw [← zofn_s]
          exact H
        rw [gSk, if_neg hf]
        exact ih (i + 1) b d r h' M_29 (by omega) ⟨hP.1, fun j hj => ((F_29.2 72 (0 + j) (by omega) (by omega) (by omega)).trans ((zup_n (by omega)).trans (F_14.2 72 (0 + j) (by omega)))).trans (hP.2 j hj)⟩ (((F_29.2 71 2 (by omega) (by omega) (by omega)).trans ((zup_n (by omega)).trans (F_14.2 71 2 (by omega)))).trans hc) (zMk_f hM (fun b => (F_29.2 73 b (by omega) (by omega) (by omega)).trans ((zup_n (by omega)).trans (F_14.2 73 b (by omega))))) (rS_f hS ((F_29.2 71 23 (by omega) (by omega) (by omega)).trans ((zup_n (by omega)).trans (F_14.2 71 23 (by omega)))) (fun b => (F_29.2 79 b (by omega) (by omega) (by omega)).trans ((zup_n (by omega)).trans (F_14.2 79 b (by omega))))) H
      · skip
        replace H := i_icst (x := 1) (q := 41) H I_X8_slacks_40 (by decide) rfl
        replace H := i_iln (q := 42) H I_X8_slacks_41 rfl rfl
        replace H := i_ishl (q := 43) H I_X8_slacks_42 rfl
        replace H := i_goto (q := 47) H I_X8_slacks_43 (by decide)
        replace H := i_ior (q := 48) H I_X8_slacks_47 rfl
        replace H := i_isn (q := 49) H I_X8_slacks_48 rfl rfl
        replace H := i_inc (q := 52) H I_X8_slacks_49 rfl rfl rfl
        replace H := i_goto (q := 4) H I_X8_slacks_52 (by decide)
        have hf : gSf c g sa sw s i = true := zif1 c_37
        replace H : zE none d zm_X8_slacks 4 [.ref 71, .int (b ||| (1 <<< (Int32.ofNat i &&& 31))), .int (Int32.ofNat (i + 1))] [] M_29 r h' := by
          rw [← zofn_s]
          exact H
        rw [gSk, if_pos hf]
        exact ih (i + 1) (b ||| (1 <<< (Int32.ofNat i &&& 31))) d r h' M_29 (by omega) ⟨hP.1, fun j hj => ((F_29.2 72 (0 + j) (by omega) (by omega) (by omega)).trans ((zup_n (by omega)).trans (F_14.2 72 (0 + j) (by omega)))).trans (hP.2 j hj)⟩ (((F_29.2 71 2 (by omega) (by omega) (by omega)).trans ((zup_n (by omega)).trans (F_14.2 71 2 (by omega)))).trans hc) (zMk_f hM (fun b => (F_29.2 73 b (by omega) (by omega) (by omega)).trans ((zup_n (by omega)).trans (F_14.2 73 b (by omega))))) (rS_f hS ((F_29.2 71 23 (by omega) (by omega) (by omega)).trans ((zup_n (by omega)).trans (F_14.2 71 23 (by omega)))) (fun b => (F_29.2 79 b (by omega) (by omega) (by omega)).trans ((zup_n (by omega)).trans (F_14.2 79 b (by omega))))) H
theorem t_X8_slacks {d : Nat} {m : zM} {r : Option Value} {h' : zHp} {s : Nat} {sa sw : Nat → Int32} {c a : Nat} {g : Nat → Int32} (hP : PG m 0 g) (hg : gok g c) (hpl : gpl g) (ha : g 26 = Int32.ofNat a) (ha8 : a ≤ 8) (hc : m 71 2 = Int32.ofNat c) (hM : zMk m) (hS : rS m s sa sw) (H : zE none d zm_X8_slacks 0 [.ref 71, .null, .null] [] m r h') : r = some (.int (gSk (gSf c g sa sw s) 10 0 0)) := by
  replace H := i_icst (x := 0) (q := 1) H I_X8_slacks_0 (by decide) rfl
  replace H := i_isn (q := 2) H I_X8_slacks_1 rfl rfl
  replace H := i_icst (x := 0) (q := 3) H I_X8_slacks_2 (by decide) rfl
  replace H := i_isn (q := 4) H I_X8_slacks_3 rfl rfl
  exact sk_8 hg hpl ha ha8 10 0 0 d r h' m rfl hP hc hM hS H
theorem pt_slacks {m : zM} {r : Option Value} {h' : zHp} (ht : zTy m) (hR : RS m) (H : zEv none 19 zm_X7_slacks (0, lv_args 0 [.ref 0], [], zhp m) r h') : ∃ m1 v, r = some (.int v) ∧ h' = zhp m1 ∧ zTy m1 ∧ ∀ r2 h2, zEv none 19 zm_X8_slacks (0, lv_args 0 [.ref 71], [], zhp m1) r2 h2 → ∃ m2 v2, r2 = some (.int v2) ∧ h2 = zhp m2 ∧ zTy m2 ∧ RS m2 ∧ v = v2 := by
  obtain ⟨hR, hS⟩ := hR
  have hR0 := hR
  have hS0 := hS
  obtain ⟨s, s1, s2, s3, s4⟩ := hS
  obtain ⟨⟨_, hM, _, _, c, c1, ⟨hL, hb⟩, _⟩, _⟩ := hR
  have hg := gok_11 ht hL
  have hpl := gpl_0 ht
  obtain ⟨a, a6, a7, _⟩ := hL.2.2.2.2.2
  obtain ⟨m1, v, a1, a2, a3, a4⟩ := e_X7_slacks ht H
  refine ⟨m1, v, a1, a2, a3, fun r2 h2 H2 => ?_⟩
  obtain ⟨m2, v2, b1, b2, b3, b4⟩ := e_X8_slacks a3 H2
  refine ⟨m2, v2, b1, b2, b3, ⟨RF_f (RF_f hR0 a4 (by decide +kernel)) b4 (by decide +kernel), SV_f (SV_f hS0 a4 (by decide +kernel)) b4 (by decide +kernel)⟩, ?_⟩
  have hP1 : PG m1 0 (pgf m 0) := ⟨by omega, fun j hj => a4 72 (0 + j) (zpl_r LY_72 (by omega)) (ymd_c (by decide +kernel) _)⟩
  have hM1 : zMk m1 := ⟨(a4 73 0 ⟨_, LY_73, rfl⟩ (by decide +kernel)).trans hM.1, (a4 73 1 ⟨_, LY_73, rfl⟩ (by decide +kernel)).trans hM.2.1, (a4 73 2 ⟨_, LY_73, rfl⟩ (by decide +kernel)).trans hM.2.2.1, (a4 73 3 ⟨_, LY_73, rfl⟩ (by decide +kernel)).trans hM.2.2.2⟩
  have hcS : cS m s (m 41) (m 42) := ⟨s1, s2, fun _ _ => ⟨rfl, rfl⟩⟩
  have hrS : rS m1 s (m 41) (m 42) := ⟨s1, (a4 71 23 ⟨_, LY_71, rfl⟩ (by decide +kernel)).trans s3, fun k hk => ⟨(a4 79 (2 * k) (zpl_r LY_79 (by omega)) (ymd_c (by decide +kernel) _)).trans (s4 k hk).1.symm, (a4 79 (2 * k + 1) (zpl_r LY_79 (by omega)) (ymd_c (by decide +kernel) _)).trans (s4 k hk).2.symm⟩⟩
  have hc1 : m1 71 2 = Int32.ofNat c := (a4 71 2 ⟨_, LY_71, rfl⟩ (by decide +kernel)).trans c1
  have k1 := t_X7_slacks hL hg hcS (zE_of 2 rfl H)
  have k2 := t_X8_slacks hP1 hg hpl a7 a6 hc1 hM1 hrS (zE_of 2 rfl H2)
  rw [a1] at k1
  rw [b1] at k2
  cases k1
  cases k2
  rfl
end
section
/-! torn, count, counts -/
theorem It_X0_allMarks : zm_X0_allMarks.2.2.2.2.2 = zt_X0_allMarks := by
  unfold zm_X0_allMarks
  rfl
theorem It_X0_allTurned : zm_X0_allTurned.2.2.2.2.2 = zt_X0_allTurned := by
  unfold zm_X0_allTurned
  rfl
theorem It_X7_count : zm_X7_count.2.2.2.2.2 = zt_X7_count := by
  unfold zm_X7_count
  rfl
theorem It_X7_counts : zm_X7_counts.2.2.2.2.2 = zt_X7_counts := by
  unfold zm_X7_counts
  rfl
theorem It_X7_torn : zm_X7_torn.2.2.2.2.2 = zt_X7_torn := by
  unfold zm_X7_torn
  rfl
theorem It_X8_count : zm_X8_count.2.2.2.2.2 = zt_X8_count := by
  unfold zm_X8_count
  rfl
theorem It_X8_counts : zm_X8_counts.2.2.2.2.2 = zt_X8_counts := by
  unfold zm_X8_counts
  rfl
theorem It_X8_fitsOf : zm_X8_fitsOf.2.2.2.2.2 = zt_X8_fitsOf := by
  unfold zm_X8_fitsOf
  rfl
theorem It_X8_torn : zm_X8_torn.2.2.2.2.2 = zt_X8_torn := by
  unfold zm_X8_torn
  rfl
theorem I_X0_allMarks_0 : zin zm_X0_allMarks.2.2.2.2.2 0 = some (.iconst 0, 1) := by rw [It_X0_allMarks]; rfl
theorem I_X0_allMarks_1 : zin zm_X0_allMarks.2.2.2.2.2 1 = some (.istore_n 1, 1) := by rw [It_X0_allMarks]; rfl
theorem I_X0_allMarks_2 : zin zm_X0_allMarks.2.2.2.2.2 2 = some (.iconst 0, 1) := by rw [It_X0_allMarks]; rfl
theorem I_X0_allMarks_3 : zin zm_X0_allMarks.2.2.2.2.2 3 = some (.istore_n 2, 1) := by rw [It_X0_allMarks]; rfl
theorem I_X0_allMarks_4 : zin zm_X0_allMarks.2.2.2.2.2 4 = some (.iload_n 2, 1) := by rw [It_X0_allMarks]; rfl
theorem I_X0_allMarks_5 : zin zm_X0_allMarks.2.2.2.2.2 5 = some (.aload_n 0, 1) := by rw [It_X0_allMarks]; rfl
theorem I_X0_allMarks_6 : zin zm_X0_allMarks.2.2.2.2.2 6 = some (.getfield 26, 3) := by rw [It_X0_allMarks]; rfl
theorem I_X0_allMarks_9 : zin zm_X0_allMarks.2.2.2.2.2 9 = some (.if_icmp .ge 21, 3) := by rw [It_X0_allMarks]; rfl
theorem I_X0_allMarks_12 : zin zm_X0_allMarks.2.2.2.2.2 12 = some (.iload_n 1, 1) := by rw [It_X0_allMarks]; rfl
theorem I_X0_allMarks_13 : zin zm_X0_allMarks.2.2.2.2.2 13 = some (.aload_n 0, 1) := by rw [It_X0_allMarks]; rfl
theorem I_X0_allMarks_14 : zin zm_X0_allMarks.2.2.2.2.2 14 = some (.getfield 11, 3) := by rw [It_X0_allMarks]; rfl
theorem I_X0_allMarks_17 : zin zm_X0_allMarks.2.2.2.2.2 17 = some (.iload_n 2, 1) := by rw [It_X0_allMarks]; rfl
theorem I_X0_allMarks_18 : zin zm_X0_allMarks.2.2.2.2.2 18 = some (.aaload, 1) := by rw [It_X0_allMarks]; rfl
theorem I_X0_allMarks_19 : zin zm_X0_allMarks.2.2.2.2.2 19 = some (.invokevirtual 68, 3) := by rw [It_X0_allMarks]; rfl
theorem I_X0_allMarks_22 : zin zm_X0_allMarks.2.2.2.2.2 22 = some (.iadd, 1) := by rw [It_X0_allMarks]; rfl
theorem I_X0_allMarks_23 : zin zm_X0_allMarks.2.2.2.2.2 23 = some (.istore_n 1, 1) := by rw [It_X0_allMarks]; rfl
theorem I_X0_allMarks_24 : zin zm_X0_allMarks.2.2.2.2.2 24 = some (.iinc 2 1, 3) := by rw [It_X0_allMarks]; rfl
theorem I_X0_allMarks_27 : zin zm_X0_allMarks.2.2.2.2.2 27 = some (.goto (-23), 3) := by rw [It_X0_allMarks]; rfl
theorem I_X0_allMarks_30 : zin zm_X0_allMarks.2.2.2.2.2 30 = some (.iload_n 1, 1) := by rw [It_X0_allMarks]; rfl
theorem I_X0_allMarks_31 : zin zm_X0_allMarks.2.2.2.2.2 31 = some (.ireturn, 1) := by rw [It_X0_allMarks]; rfl
theorem I_X0_allTurned_0 : zin zm_X0_allTurned.2.2.2.2.2 0 = some (.iconst 0, 1) := by rw [It_X0_allTurned]; rfl
theorem I_X0_allTurned_1 : zin zm_X0_allTurned.2.2.2.2.2 1 = some (.istore_n 1, 1) := by rw [It_X0_allTurned]; rfl
theorem I_X0_allTurned_2 : zin zm_X0_allTurned.2.2.2.2.2 2 = some (.iconst 0, 1) := by rw [It_X0_allTurned]; rfl
theorem I_X0_allTurned_3 : zin zm_X0_allTurned.2.2.2.2.2 3 = some (.istore_n 2, 1) := by rw [It_X0_allTurned]; rfl
theorem I_X0_allTurned_4 : zin zm_X0_allTurned.2.2.2.2.2 4 = some (.iload_n 2, 1) := by rw [It_X0_allTurned]; rfl
theorem I_X0_allTurned_5 : zin zm_X0_allTurned.2.2.2.2.2 5 = some (.aload_n 0, 1) := by rw [It_X0_allTurned]; rfl
theorem I_X0_allTurned_6 : zin zm_X0_allTurned.2.2.2.2.2 6 = some (.getfield 26, 3) := by rw [It_X0_allTurned]; rfl
theorem I_X0_allTurned_9 : zin zm_X0_allTurned.2.2.2.2.2 9 = some (.if_icmp .ge 21, 3) := by rw [It_X0_allTurned]; rfl
theorem I_X0_allTurned_12 : zin zm_X0_allTurned.2.2.2.2.2 12 = some (.iload_n 1, 1) := by rw [It_X0_allTurned]; rfl
theorem I_X0_allTurned_13 : zin zm_X0_allTurned.2.2.2.2.2 13 = some (.aload_n 0, 1) := by rw [It_X0_allTurned]; rfl
theorem I_X0_allTurned_14 : zin zm_X0_allTurned.2.2.2.2.2 14 = some (.getfield 11, 3) := by rw [It_X0_allTurned]; rfl
theorem I_X0_allTurned_17 : zin zm_X0_allTurned.2.2.2.2.2 17 = some (.iload_n 2, 1) := by rw [It_X0_allTurned]; rfl
theorem I_X0_allTurned_18 : zin zm_X0_allTurned.2.2.2.2.2 18 = some (.aaload, 1) := by rw [It_X0_allTurned]; rfl
theorem I_X0_allTurned_19 : zin zm_X0_allTurned.2.2.2.2.2 19 = some (.invokevirtual 51, 3) := by rw [It_X0_allTurned]; rfl
theorem I_X0_allTurned_22 : zin zm_X0_allTurned.2.2.2.2.2 22 = some (.iadd, 1) := by rw [It_X0_allTurned]; rfl
theorem I_X0_allTurned_23 : zin zm_X0_allTurned.2.2.2.2.2 23 = some (.istore_n 1, 1) := by rw [It_X0_allTurned]; rfl
theorem I_X0_allTurned_24 : zin zm_X0_allTurned.2.2.2.2.2 24 = some (.iinc 2 1, 3) := by rw [It_X0_allTurned]; rfl
theorem I_X0_allTurned_27 : zin zm_X0_allTurned.2.2.2.2.2 27 = some (.goto (-23), 3) := by rw [It_X0_allTurned]; rfl
theorem I_X0_allTurned_30 : zin zm_X0_allTurned.2.2.2.2.2 30 = some (.iload_n 1, 1) := by rw [It_X0_allTurned]; rfl
theorem I_X0_allTurned_31 : zin zm_X0_allTurned.2.2.2.2.2 31 = some (.ireturn, 1) := by rw [It_X0_allTurned]; rfl
theorem I_X7_count_0 : zin zm_X7_count.2.2.2.2.2 0 = some (.iload_n 1, 1) := by rw [It_X7_count]; rfl
theorem I_X7_count_1 : zin zm_X7_count.2.2.2.2.2 1 = some (.tableswitch 128 0 5 #[39, 47, 77, 85, 112, 120], 39) := by rw [It_X7_count]; rfl
theorem I_X7_count_40 : zin zm_X7_count.2.2.2.2.2 40 = some (.aload_n 0, 1) := by rw [It_X7_count]; rfl
theorem I_X7_count_41 : zin zm_X7_count.2.2.2.2.2 41 = some (.getfield 40, 3) := by rw [It_X7_count]; rfl
theorem I_X7_count_44 : zin zm_X7_count.2.2.2.2.2 44 = some (.getfield 81, 3) := by rw [It_X7_count]; rfl
theorem I_X7_count_47 : zin zm_X7_count.2.2.2.2.2 47 = some (.ireturn, 1) := by rw [It_X7_count]; rfl
theorem I_X7_count_48 : zin zm_X7_count.2.2.2.2.2 48 = some (.aload_n 0, 1) := by rw [It_X7_count]; rfl
theorem I_X7_count_49 : zin zm_X7_count.2.2.2.2.2 49 = some (.getfield 48, 3) := by rw [It_X7_count]; rfl
theorem I_X7_count_52 : zin zm_X7_count.2.2.2.2.2 52 = some (.iconst 0, 1) := by rw [It_X7_count]; rfl
theorem I_X7_count_53 : zin zm_X7_count.2.2.2.2.2 53 = some (.baload, 1) := by rw [It_X7_count]; rfl
theorem I_X7_count_54 : zin zm_X7_count.2.2.2.2.2 54 = some (.ifCond .eq 7, 3) := by rw [It_X7_count]; rfl
theorem I_X7_count_57 : zin zm_X7_count.2.2.2.2.2 57 = some (.iconst 1, 1) := by rw [It_X7_count]; rfl
theorem I_X7_count_58 : zin zm_X7_count.2.2.2.2.2 58 = some (.goto 4, 3) := by rw [It_X7_count]; rfl
theorem I_X7_count_61 : zin zm_X7_count.2.2.2.2.2 61 = some (.iconst 0, 1) := by rw [It_X7_count]; rfl
theorem I_X7_count_62 : zin zm_X7_count.2.2.2.2.2 62 = some (.aload_n 0, 1) := by rw [It_X7_count]; rfl
theorem I_X7_count_63 : zin zm_X7_count.2.2.2.2.2 63 = some (.getfield 48, 3) := by rw [It_X7_count]; rfl
theorem I_X7_count_66 : zin zm_X7_count.2.2.2.2.2 66 = some (.iconst 1, 1) := by rw [It_X7_count]; rfl
theorem I_X7_count_67 : zin zm_X7_count.2.2.2.2.2 67 = some (.baload, 1) := by rw [It_X7_count]; rfl
theorem I_X7_count_68 : zin zm_X7_count.2.2.2.2.2 68 = some (.ifCond .eq 7, 3) := by rw [It_X7_count]; rfl
theorem I_X7_count_71 : zin zm_X7_count.2.2.2.2.2 71 = some (.iconst 1, 1) := by rw [It_X7_count]; rfl
theorem I_X7_count_72 : zin zm_X7_count.2.2.2.2.2 72 = some (.goto 4, 3) := by rw [It_X7_count]; rfl
theorem I_X7_count_75 : zin zm_X7_count.2.2.2.2.2 75 = some (.iconst 0, 1) := by rw [It_X7_count]; rfl
theorem I_X7_count_76 : zin zm_X7_count.2.2.2.2.2 76 = some (.iadd, 1) := by rw [It_X7_count]; rfl
theorem I_X7_count_77 : zin zm_X7_count.2.2.2.2.2 77 = some (.ireturn, 1) := by rw [It_X7_count]; rfl
theorem I_X7_count_78 : zin zm_X7_count.2.2.2.2.2 78 = some (.aload_n 0, 1) := by rw [It_X7_count]; rfl
theorem I_X7_count_79 : zin zm_X7_count.2.2.2.2.2 79 = some (.getfield 12, 3) := by rw [It_X7_count]; rfl
theorem I_X7_count_82 : zin zm_X7_count.2.2.2.2.2 82 = some (.getfield 59, 3) := by rw [It_X7_count]; rfl
theorem I_X7_count_85 : zin zm_X7_count.2.2.2.2.2 85 = some (.ireturn, 1) := by rw [It_X7_count]; rfl
theorem I_X7_count_86 : zin zm_X7_count.2.2.2.2.2 86 = some (.aload_n 0, 1) := by rw [It_X7_count]; rfl
theorem I_X7_count_87 : zin zm_X7_count.2.2.2.2.2 87 = some (.getfield 54, 3) := by rw [It_X7_count]; rfl
theorem I_X7_count_90 : zin zm_X7_count.2.2.2.2.2 90 = some (.iconst 0, 1) := by rw [It_X7_count]; rfl
theorem I_X7_count_91 : zin zm_X7_count.2.2.2.2.2 91 = some (.aaload, 1) := by rw [It_X7_count]; rfl
theorem I_X7_count_92 : zin zm_X7_count.2.2.2.2.2 92 = some (.getfield 279, 3) := by rw [It_X7_count]; rfl
theorem I_X7_count_95 : zin zm_X7_count.2.2.2.2.2 95 = some (.ifCond .eq 15, 3) := by rw [It_X7_count]; rfl
theorem I_X7_count_98 : zin zm_X7_count.2.2.2.2.2 98 = some (.aload_n 0, 1) := by rw [It_X7_count]; rfl
theorem I_X7_count_99 : zin zm_X7_count.2.2.2.2.2 99 = some (.getfield 54, 3) := by rw [It_X7_count]; rfl
theorem I_X7_count_102 : zin zm_X7_count.2.2.2.2.2 102 = some (.iconst 0, 1) := by rw [It_X7_count]; rfl
theorem I_X7_count_103 : zin zm_X7_count.2.2.2.2.2 103 = some (.aaload, 1) := by rw [It_X7_count]; rfl
theorem I_X7_count_104 : zin zm_X7_count.2.2.2.2.2 104 = some (.getfield 283, 3) := by rw [It_X7_count]; rfl
theorem I_X7_count_107 : zin zm_X7_count.2.2.2.2.2 107 = some (.goto 5, 3) := by rw [It_X7_count]; rfl
theorem I_X7_count_110 : zin zm_X7_count.2.2.2.2.2 110 = some (.bipush (-4), 2) := by rw [It_X7_count]; rfl
theorem I_X7_count_112 : zin zm_X7_count.2.2.2.2.2 112 = some (.ireturn, 1) := by rw [It_X7_count]; rfl
theorem I_X7_count_113 : zin zm_X7_count.2.2.2.2.2 113 = some (.aload_n 0, 1) := by rw [It_X7_count]; rfl
theorem I_X7_count_114 : zin zm_X7_count.2.2.2.2.2 114 = some (.getfield 19, 3) := by rw [It_X7_count]; rfl
theorem I_X7_count_117 : zin zm_X7_count.2.2.2.2.2 117 = some (.invokevirtual 284, 3) := by rw [It_X7_count]; rfl
theorem I_X7_count_120 : zin zm_X7_count.2.2.2.2.2 120 = some (.ireturn, 1) := by rw [It_X7_count]; rfl
theorem I_X7_count_121 : zin zm_X7_count.2.2.2.2.2 121 = some (.aload_n 0, 1) := by rw [It_X7_count]; rfl
theorem I_X7_count_122 : zin zm_X7_count.2.2.2.2.2 122 = some (.getfield 19, 3) := by rw [It_X7_count]; rfl
theorem I_X7_count_125 : zin zm_X7_count.2.2.2.2.2 125 = some (.invokevirtual 287, 3) := by rw [It_X7_count]; rfl
theorem I_X7_count_128 : zin zm_X7_count.2.2.2.2.2 128 = some (.ireturn, 1) := by rw [It_X7_count]; rfl
theorem I_X7_count_129 : zin zm_X7_count.2.2.2.2.2 129 = some (.iconst (-1), 1) := by rw [It_X7_count]; rfl
theorem I_X7_count_130 : zin zm_X7_count.2.2.2.2.2 130 = some (.ireturn, 1) := by rw [It_X7_count]; rfl
theorem I_X7_counts_0 : zin zm_X7_counts.2.2.2.2.2 0 = some (.aload_n 0, 1) := by rw [It_X7_counts]; rfl
theorem I_X7_counts_1 : zin zm_X7_counts.2.2.2.2.2 1 = some (.getfield 19, 3) := by rw [It_X7_counts]; rfl
theorem I_X7_counts_4 : zin zm_X7_counts.2.2.2.2.2 4 = some (.iload_n 1, 1) := by rw [It_X7_counts]; rfl
theorem I_X7_counts_5 : zin zm_X7_counts.2.2.2.2.2 5 = some (.invokevirtual 112, 3) := by rw [It_X7_counts]; rfl
theorem I_X7_counts_8 : zin zm_X7_counts.2.2.2.2.2 8 = some (.ifCond .eq 12, 3) := by rw [It_X7_counts]; rfl
theorem I_X7_counts_11 : zin zm_X7_counts.2.2.2.2.2 11 = some (.iload_n 2, 1) := by rw [It_X7_counts]; rfl
theorem I_X7_counts_12 : zin zm_X7_counts.2.2.2.2.2 12 = some (.ifCond .lt 8, 3) := by rw [It_X7_counts]; rfl
theorem I_X7_counts_15 : zin zm_X7_counts.2.2.2.2.2 15 = some (.iload_n 2, 1) := by rw [It_X7_counts]; rfl
theorem I_X7_counts_16 : zin zm_X7_counts.2.2.2.2.2 16 = some (.iconst 2, 1) := by rw [It_X7_counts]; rfl
theorem I_X7_counts_17 : zin zm_X7_counts.2.2.2.2.2 17 = some (.if_icmp .le 5, 3) := by rw [It_X7_counts]; rfl
theorem I_X7_counts_20 : zin zm_X7_counts.2.2.2.2.2 20 = some (.iconst (-1), 1) := by rw [It_X7_counts]; rfl
theorem I_X7_counts_21 : zin zm_X7_counts.2.2.2.2.2 21 = some (.ireturn, 1) := by rw [It_X7_counts]; rfl
theorem I_X7_counts_22 : zin zm_X7_counts.2.2.2.2.2 22 = some (.iconst 0, 1) := by rw [It_X7_counts]; rfl
theorem I_X7_counts_23 : zin zm_X7_counts.2.2.2.2.2 23 = some (.istore_n 3, 1) := by rw [It_X7_counts]; rfl
theorem I_X7_counts_24 : zin zm_X7_counts.2.2.2.2.2 24 = some (.bipush (-4), 2) := by rw [It_X7_counts]; rfl
theorem I_X7_counts_26 : zin zm_X7_counts.2.2.2.2.2 26 = some (.istore 4, 2) := by rw [It_X7_counts]; rfl
theorem I_X7_counts_28 : zin zm_X7_counts.2.2.2.2.2 28 = some (.bipush (-4), 2) := by rw [It_X7_counts]; rfl
theorem I_X7_counts_30 : zin zm_X7_counts.2.2.2.2.2 30 = some (.istore 5, 2) := by rw [It_X7_counts]; rfl
theorem I_X7_counts_32 : zin zm_X7_counts.2.2.2.2.2 32 = some (.iconst 0, 1) := by rw [It_X7_counts]; rfl
theorem I_X7_counts_33 : zin zm_X7_counts.2.2.2.2.2 33 = some (.istore 6, 2) := by rw [It_X7_counts]; rfl
theorem I_X7_counts_35 : zin zm_X7_counts.2.2.2.2.2 35 = some (.iload 6, 2) := by rw [It_X7_counts]; rfl
theorem I_X7_counts_37 : zin zm_X7_counts.2.2.2.2.2 37 = some (.bipush 20, 2) := by rw [It_X7_counts]; rfl
theorem I_X7_counts_39 : zin zm_X7_counts.2.2.2.2.2 39 = some (.if_icmp .gt 54, 3) := by rw [It_X7_counts]; rfl
theorem I_X7_counts_42 : zin zm_X7_counts.2.2.2.2.2 42 = some (.aload_n 0, 1) := by rw [It_X7_counts]; rfl
theorem I_X7_counts_43 : zin zm_X7_counts.2.2.2.2.2 43 = some (.iload_n 1, 1) := by rw [It_X7_counts]; rfl
theorem I_X7_counts_44 : zin zm_X7_counts.2.2.2.2.2 44 = some (.iload 6, 2) := by rw [It_X7_counts]; rfl
theorem I_X7_counts_46 : zin zm_X7_counts.2.2.2.2.2 46 = some (.invokevirtual 204, 3) := by rw [It_X7_counts]; rfl
theorem I_X7_counts_49 : zin zm_X7_counts.2.2.2.2.2 49 = some (.pop, 1) := by rw [It_X7_counts]; rfl
theorem I_X7_counts_50 : zin zm_X7_counts.2.2.2.2.2 50 = some (.aload_n 0, 1) := by rw [It_X7_counts]; rfl
theorem I_X7_counts_51 : zin zm_X7_counts.2.2.2.2.2 51 = some (.getfield 40, 3) := by rw [It_X7_counts]; rfl
theorem I_X7_counts_54 : zin zm_X7_counts.2.2.2.2.2 54 = some (.aload_n 0, 1) := by rw [It_X7_counts]; rfl
theorem I_X7_counts_55 : zin zm_X7_counts.2.2.2.2.2 55 = some (.getfield 26, 3) := by rw [It_X7_counts]; rfl
theorem I_X7_counts_58 : zin zm_X7_counts.2.2.2.2.2 58 = some (.invokevirtual 243, 3) := by rw [It_X7_counts]; rfl
theorem I_X7_counts_61 : zin zm_X7_counts.2.2.2.2.2 61 = some (.ifCond .eq 26, 3) := by rw [It_X7_counts]; rfl
theorem I_X7_counts_64 : zin zm_X7_counts.2.2.2.2.2 64 = some (.iinc 3 1, 3) := by rw [It_X7_counts]; rfl
theorem I_X7_counts_67 : zin zm_X7_counts.2.2.2.2.2 67 = some (.iload 4, 2) := by rw [It_X7_counts]; rfl
theorem I_X7_counts_69 : zin zm_X7_counts.2.2.2.2.2 69 = some (.bipush (-4), 2) := by rw [It_X7_counts]; rfl
theorem I_X7_counts_71 : zin zm_X7_counts.2.2.2.2.2 71 = some (.if_icmp .ne 8, 3) := by rw [It_X7_counts]; rfl
theorem I_X7_counts_74 : zin zm_X7_counts.2.2.2.2.2 74 = some (.iload 6, 2) := by rw [It_X7_counts]; rfl
theorem I_X7_counts_76 : zin zm_X7_counts.2.2.2.2.2 76 = some (.goto 5, 3) := by rw [It_X7_counts]; rfl
theorem I_X7_counts_79 : zin zm_X7_counts.2.2.2.2.2 79 = some (.iload 4, 2) := by rw [It_X7_counts]; rfl
theorem I_X7_counts_81 : zin zm_X7_counts.2.2.2.2.2 81 = some (.istore 4, 2) := by rw [It_X7_counts]; rfl
theorem I_X7_counts_83 : zin zm_X7_counts.2.2.2.2.2 83 = some (.iload 6, 2) := by rw [It_X7_counts]; rfl
theorem I_X7_counts_85 : zin zm_X7_counts.2.2.2.2.2 85 = some (.istore 5, 2) := by rw [It_X7_counts]; rfl
theorem I_X7_counts_87 : zin zm_X7_counts.2.2.2.2.2 87 = some (.iinc 6 1, 3) := by rw [It_X7_counts]; rfl
theorem I_X7_counts_90 : zin zm_X7_counts.2.2.2.2.2 90 = some (.goto (-55), 3) := by rw [It_X7_counts]; rfl
theorem I_X7_counts_93 : zin zm_X7_counts.2.2.2.2.2 93 = some (.iload_n 2, 1) := by rw [It_X7_counts]; rfl
theorem I_X7_counts_94 : zin zm_X7_counts.2.2.2.2.2 94 = some (.ifCond .ne 5, 3) := by rw [It_X7_counts]; rfl
theorem I_X7_counts_97 : zin zm_X7_counts.2.2.2.2.2 97 = some (.iload_n 3, 1) := by rw [It_X7_counts]; rfl
theorem I_X7_counts_98 : zin zm_X7_counts.2.2.2.2.2 98 = some (.ireturn, 1) := by rw [It_X7_counts]; rfl
theorem I_X7_counts_99 : zin zm_X7_counts.2.2.2.2.2 99 = some (.iload_n 2, 1) := by rw [It_X7_counts]; rfl
theorem I_X7_counts_100 : zin zm_X7_counts.2.2.2.2.2 100 = some (.iconst 1, 1) := by rw [It_X7_counts]; rfl
theorem I_X7_counts_101 : zin zm_X7_counts.2.2.2.2.2 101 = some (.if_icmp .ne 8, 3) := by rw [It_X7_counts]; rfl
theorem I_X7_counts_104 : zin zm_X7_counts.2.2.2.2.2 104 = some (.iload 4, 2) := by rw [It_X7_counts]; rfl
theorem I_X7_counts_106 : zin zm_X7_counts.2.2.2.2.2 106 = some (.goto 5, 3) := by rw [It_X7_counts]; rfl
theorem I_X7_counts_109 : zin zm_X7_counts.2.2.2.2.2 109 = some (.iload 5, 2) := by rw [It_X7_counts]; rfl
theorem I_X7_counts_111 : zin zm_X7_counts.2.2.2.2.2 111 = some (.ireturn, 1) := by rw [It_X7_counts]; rfl
theorem I_X7_torn_0 : zin zm_X7_torn.2.2.2.2.2 0 = some (.aload_n 0, 1) := by rw [It_X7_torn]; rfl
theorem I_X7_torn_1 : zin zm_X7_torn.2.2.2.2.2 1 = some (.getfield 276, 3) := by rw [It_X7_torn]; rfl
theorem I_X7_torn_4 : zin zm_X7_torn.2.2.2.2.2 4 = some (.ireturn, 1) := by rw [It_X7_torn]; rfl
theorem I_X8_count_0 : zin zm_X8_count.2.2.2.2.2 0 = some (.iconst 0, 1) := by rw [It_X8_count]; rfl
theorem I_X8_count_1 : zin zm_X8_count.2.2.2.2.2 1 = some (.istore_n 2, 1) := by rw [It_X8_count]; rfl
theorem I_X8_count_2 : zin zm_X8_count.2.2.2.2.2 2 = some (.iconst 0, 1) := by rw [It_X8_count]; rfl
theorem I_X8_count_3 : zin zm_X8_count.2.2.2.2.2 3 = some (.istore_n 3, 1) := by rw [It_X8_count]; rfl
theorem I_X8_count_4 : zin zm_X8_count.2.2.2.2.2 4 = some (.iconst 0, 1) := by rw [It_X8_count]; rfl
theorem I_X8_count_5 : zin zm_X8_count.2.2.2.2.2 5 = some (.istore 4, 2) := by rw [It_X8_count]; rfl
theorem I_X8_count_7 : zin zm_X8_count.2.2.2.2.2 7 = some (.iload 4, 2) := by rw [It_X8_count]; rfl
theorem I_X8_count_9 : zin zm_X8_count.2.2.2.2.2 9 = some (.aload_n 0, 1) := by rw [It_X8_count]; rfl
theorem I_X8_count_10 : zin zm_X8_count.2.2.2.2.2 10 = some (.getfield 131, 3) := by rw [It_X8_count]; rfl
theorem I_X8_count_13 : zin zm_X8_count.2.2.2.2.2 13 = some (.if_icmp .ge 34, 3) := by rw [It_X8_count]; rfl
theorem I_X8_count_16 : zin zm_X8_count.2.2.2.2.2 16 = some (.iload_n 2, 1) := by rw [It_X8_count]; rfl
theorem I_X8_count_17 : zin zm_X8_count.2.2.2.2.2 17 = some (.aload_n 0, 1) := by rw [It_X8_count]; rfl
theorem I_X8_count_18 : zin zm_X8_count.2.2.2.2.2 18 = some (.iconst 0, 1) := by rw [It_X8_count]; rfl
theorem I_X8_count_19 : zin zm_X8_count.2.2.2.2.2 19 = some (.iload 4, 2) := by rw [It_X8_count]; rfl
theorem I_X8_count_21 : zin zm_X8_count.2.2.2.2.2 21 = some (.invokevirtual 141, 3) := by rw [It_X8_count]; rfl
theorem I_X8_count_24 : zin zm_X8_count.2.2.2.2.2 24 = some (.iadd, 1) := by rw [It_X8_count]; rfl
theorem I_X8_count_25 : zin zm_X8_count.2.2.2.2.2 25 = some (.istore_n 2, 1) := by rw [It_X8_count]; rfl
theorem I_X8_count_26 : zin zm_X8_count.2.2.2.2.2 26 = some (.iload_n 3, 1) := by rw [It_X8_count]; rfl
theorem I_X8_count_27 : zin zm_X8_count.2.2.2.2.2 27 = some (.aload_n 0, 1) := by rw [It_X8_count]; rfl
theorem I_X8_count_28 : zin zm_X8_count.2.2.2.2.2 28 = some (.getfield 13, 3) := by rw [It_X8_count]; rfl
theorem I_X8_count_31 : zin zm_X8_count.2.2.2.2.2 31 = some (.aload_n 0, 1) := by rw [It_X8_count]; rfl
theorem I_X8_count_32 : zin zm_X8_count.2.2.2.2.2 32 = some (.getfield 7, 3) := by rw [It_X8_count]; rfl
theorem I_X8_count_35 : zin zm_X8_count.2.2.2.2.2 35 = some (.iload 4, 2) := by rw [It_X8_count]; rfl
theorem I_X8_count_37 : zin zm_X8_count.2.2.2.2.2 37 = some (.iaload, 1) := by rw [It_X8_count]; rfl
theorem I_X8_count_38 : zin zm_X8_count.2.2.2.2.2 38 = some (.iaload, 1) := by rw [It_X8_count]; rfl
theorem I_X8_count_39 : zin zm_X8_count.2.2.2.2.2 39 = some (.iadd, 1) := by rw [It_X8_count]; rfl
theorem I_X8_count_40 : zin zm_X8_count.2.2.2.2.2 40 = some (.istore_n 3, 1) := by rw [It_X8_count]; rfl
theorem I_X8_count_41 : zin zm_X8_count.2.2.2.2.2 41 = some (.iinc 4 1, 3) := by rw [It_X8_count]; rfl
theorem I_X8_count_44 : zin zm_X8_count.2.2.2.2.2 44 = some (.goto (-37), 3) := by rw [It_X8_count]; rfl
theorem I_X8_count_47 : zin zm_X8_count.2.2.2.2.2 47 = some (.iload_n 1, 1) := by rw [It_X8_count]; rfl
theorem I_X8_count_48 : zin zm_X8_count.2.2.2.2.2 48 = some (.tableswitch 107 0 5 #[40, 45, 75, 80, 103, 105], 40) := by rw [It_X8_count]; rfl
theorem I_X8_count_88 : zin zm_X8_count.2.2.2.2.2 88 = some (.aload_n 0, 1) := by rw [It_X8_count]; rfl
theorem I_X8_count_89 : zin zm_X8_count.2.2.2.2.2 89 = some (.getfield 134, 3) := by rw [It_X8_count]; rfl
theorem I_X8_count_92 : zin zm_X8_count.2.2.2.2.2 92 = some (.ireturn, 1) := by rw [It_X8_count]; rfl
theorem I_X8_count_93 : zin zm_X8_count.2.2.2.2.2 93 = some (.aload_n 0, 1) := by rw [It_X8_count]; rfl
theorem I_X8_count_94 : zin zm_X8_count.2.2.2.2.2 94 = some (.getfield 41, 3) := by rw [It_X8_count]; rfl
theorem I_X8_count_97 : zin zm_X8_count.2.2.2.2.2 97 = some (.iconst 0, 1) := by rw [It_X8_count]; rfl
theorem I_X8_count_98 : zin zm_X8_count.2.2.2.2.2 98 = some (.baload, 1) := by rw [It_X8_count]; rfl
theorem I_X8_count_99 : zin zm_X8_count.2.2.2.2.2 99 = some (.ifCond .eq 7, 3) := by rw [It_X8_count]; rfl
theorem I_X8_count_102 : zin zm_X8_count.2.2.2.2.2 102 = some (.iconst 1, 1) := by rw [It_X8_count]; rfl
theorem I_X8_count_103 : zin zm_X8_count.2.2.2.2.2 103 = some (.goto 4, 3) := by rw [It_X8_count]; rfl
theorem I_X8_count_106 : zin zm_X8_count.2.2.2.2.2 106 = some (.iconst 0, 1) := by rw [It_X8_count]; rfl
theorem I_X8_count_107 : zin zm_X8_count.2.2.2.2.2 107 = some (.aload_n 0, 1) := by rw [It_X8_count]; rfl
theorem I_X8_count_108 : zin zm_X8_count.2.2.2.2.2 108 = some (.getfield 41, 3) := by rw [It_X8_count]; rfl
theorem I_X8_count_111 : zin zm_X8_count.2.2.2.2.2 111 = some (.iconst 1, 1) := by rw [It_X8_count]; rfl
theorem I_X8_count_112 : zin zm_X8_count.2.2.2.2.2 112 = some (.baload, 1) := by rw [It_X8_count]; rfl
theorem I_X8_count_113 : zin zm_X8_count.2.2.2.2.2 113 = some (.ifCond .eq 7, 3) := by rw [It_X8_count]; rfl
theorem I_X8_count_116 : zin zm_X8_count.2.2.2.2.2 116 = some (.iconst 1, 1) := by rw [It_X8_count]; rfl
theorem I_X8_count_117 : zin zm_X8_count.2.2.2.2.2 117 = some (.goto 4, 3) := by rw [It_X8_count]; rfl
theorem I_X8_count_120 : zin zm_X8_count.2.2.2.2.2 120 = some (.iconst 0, 1) := by rw [It_X8_count]; rfl
theorem I_X8_count_121 : zin zm_X8_count.2.2.2.2.2 121 = some (.iadd, 1) := by rw [It_X8_count]; rfl
theorem I_X8_count_122 : zin zm_X8_count.2.2.2.2.2 122 = some (.ireturn, 1) := by rw [It_X8_count]; rfl
theorem I_X8_count_123 : zin zm_X8_count.2.2.2.2.2 123 = some (.aload_n 0, 1) := by rw [It_X8_count]; rfl
theorem I_X8_count_124 : zin zm_X8_count.2.2.2.2.2 124 = some (.getfield 59, 3) := by rw [It_X8_count]; rfl
theorem I_X8_count_127 : zin zm_X8_count.2.2.2.2.2 127 = some (.ireturn, 1) := by rw [It_X8_count]; rfl
theorem I_X8_count_128 : zin zm_X8_count.2.2.2.2.2 128 = some (.aload_n 0, 1) := by rw [It_X8_count]; rfl
theorem I_X8_count_129 : zin zm_X8_count.2.2.2.2.2 129 = some (.getfield 44, 3) := by rw [It_X8_count]; rfl
theorem I_X8_count_132 : zin zm_X8_count.2.2.2.2.2 132 = some (.iconst 0, 1) := by rw [It_X8_count]; rfl
theorem I_X8_count_133 : zin zm_X8_count.2.2.2.2.2 133 = some (.iaload, 1) := by rw [It_X8_count]; rfl
theorem I_X8_count_134 : zin zm_X8_count.2.2.2.2.2 134 = some (.bipush (-4), 2) := by rw [It_X8_count]; rfl
theorem I_X8_count_136 : zin zm_X8_count.2.2.2.2.2 136 = some (.if_icmp .ne 8, 3) := by rw [It_X8_count]; rfl
theorem I_X8_count_139 : zin zm_X8_count.2.2.2.2.2 139 = some (.bipush (-4), 2) := by rw [It_X8_count]; rfl
theorem I_X8_count_141 : zin zm_X8_count.2.2.2.2.2 141 = some (.goto 9, 3) := by rw [It_X8_count]; rfl
theorem I_X8_count_144 : zin zm_X8_count.2.2.2.2.2 144 = some (.aload_n 0, 1) := by rw [It_X8_count]; rfl
theorem I_X8_count_145 : zin zm_X8_count.2.2.2.2.2 145 = some (.getfield 47, 3) := by rw [It_X8_count]; rfl
theorem I_X8_count_148 : zin zm_X8_count.2.2.2.2.2 148 = some (.iconst 0, 1) := by rw [It_X8_count]; rfl
theorem I_X8_count_149 : zin zm_X8_count.2.2.2.2.2 149 = some (.iaload, 1) := by rw [It_X8_count]; rfl
theorem I_X8_count_150 : zin zm_X8_count.2.2.2.2.2 150 = some (.ireturn, 1) := by rw [It_X8_count]; rfl
theorem I_X8_count_151 : zin zm_X8_count.2.2.2.2.2 151 = some (.iload_n 2, 1) := by rw [It_X8_count]; rfl
theorem I_X8_count_152 : zin zm_X8_count.2.2.2.2.2 152 = some (.ireturn, 1) := by rw [It_X8_count]; rfl
theorem I_X8_count_153 : zin zm_X8_count.2.2.2.2.2 153 = some (.iload_n 3, 1) := by rw [It_X8_count]; rfl
theorem I_X8_count_154 : zin zm_X8_count.2.2.2.2.2 154 = some (.ireturn, 1) := by rw [It_X8_count]; rfl
theorem I_X8_count_155 : zin zm_X8_count.2.2.2.2.2 155 = some (.iconst (-1), 1) := by rw [It_X8_count]; rfl
theorem I_X8_count_156 : zin zm_X8_count.2.2.2.2.2 156 = some (.ireturn, 1) := by rw [It_X8_count]; rfl
theorem I_X8_counts_0 : zin zm_X8_counts.2.2.2.2.2 0 = some (.aload_n 0, 1) := by rw [It_X8_counts]; rfl
theorem I_X8_counts_1 : zin zm_X8_counts.2.2.2.2.2 1 = some (.iload_n 1, 1) := by rw [It_X8_counts]; rfl
theorem I_X8_counts_2 : zin zm_X8_counts.2.2.2.2.2 2 = some (.invokevirtual 151, 3) := by rw [It_X8_counts]; rfl
theorem I_X8_counts_5 : zin zm_X8_counts.2.2.2.2.2 5 = some (.ifCond .eq 15, 3) := by rw [It_X8_counts]; rfl
theorem I_X8_counts_8 : zin zm_X8_counts.2.2.2.2.2 8 = some (.iload_n 2, 1) := by rw [It_X8_counts]; rfl
theorem I_X8_counts_9 : zin zm_X8_counts.2.2.2.2.2 9 = some (.i2l, 1) := by rw [It_X8_counts]; rfl
theorem I_X8_counts_10 : zin zm_X8_counts.2.2.2.2.2 10 = some (.lconst 0, 1) := by rw [It_X8_counts]; rfl
theorem I_X8_counts_11 : zin zm_X8_counts.2.2.2.2.2 11 = some (.ldc2_w 157, 3) := by rw [It_X8_counts]; rfl
theorem I_X8_counts_14 : zin zm_X8_counts.2.2.2.2.2 14 = some (.invokestatic 55, 3) := by rw [It_X8_counts]; rfl
theorem I_X8_counts_17 : zin zm_X8_counts.2.2.2.2.2 17 = some (.ifCond .ne 5, 3) := by rw [It_X8_counts]; rfl
theorem I_X8_counts_20 : zin zm_X8_counts.2.2.2.2.2 20 = some (.iconst (-1), 1) := by rw [It_X8_counts]; rfl
theorem I_X8_counts_21 : zin zm_X8_counts.2.2.2.2.2 21 = some (.ireturn, 1) := by rw [It_X8_counts]; rfl
theorem I_X8_counts_22 : zin zm_X8_counts.2.2.2.2.2 22 = some (.aload_n 0, 1) := by rw [It_X8_counts]; rfl
theorem I_X8_counts_23 : zin zm_X8_counts.2.2.2.2.2 23 = some (.iload_n 1, 1) := by rw [It_X8_counts]; rfl
theorem I_X8_counts_24 : zin zm_X8_counts.2.2.2.2.2 24 = some (.invokevirtual 236, 3) := by rw [It_X8_counts]; rfl
theorem I_X8_counts_27 : zin zm_X8_counts.2.2.2.2.2 27 = some (.istore_n 3, 1) := by rw [It_X8_counts]; rfl
theorem I_X8_counts_28 : zin zm_X8_counts.2.2.2.2.2 28 = some (.bipush (-4), 2) := by rw [It_X8_counts]; rfl
theorem I_X8_counts_30 : zin zm_X8_counts.2.2.2.2.2 30 = some (.istore 4, 2) := by rw [It_X8_counts]; rfl
theorem I_X8_counts_32 : zin zm_X8_counts.2.2.2.2.2 32 = some (.bipush (-4), 2) := by rw [It_X8_counts]; rfl
theorem I_X8_counts_34 : zin zm_X8_counts.2.2.2.2.2 34 = some (.istore 5, 2) := by rw [It_X8_counts]; rfl
theorem I_X8_counts_36 : zin zm_X8_counts.2.2.2.2.2 36 = some (.iconst 0, 1) := by rw [It_X8_counts]; rfl
theorem I_X8_counts_37 : zin zm_X8_counts.2.2.2.2.2 37 = some (.istore 6, 2) := by rw [It_X8_counts]; rfl
theorem I_X8_counts_39 : zin zm_X8_counts.2.2.2.2.2 39 = some (.iload 6, 2) := by rw [It_X8_counts]; rfl
theorem I_X8_counts_41 : zin zm_X8_counts.2.2.2.2.2 41 = some (.bipush 20, 2) := by rw [It_X8_counts]; rfl
theorem I_X8_counts_43 : zin zm_X8_counts.2.2.2.2.2 43 = some (.if_icmp .gt 54, 3) := by rw [It_X8_counts]; rfl
theorem I_X8_counts_46 : zin zm_X8_counts.2.2.2.2.2 46 = some (.aload_n 0, 1) := by rw [It_X8_counts]; rfl
theorem I_X8_counts_47 : zin zm_X8_counts.2.2.2.2.2 47 = some (.getfield 37, 3) := by rw [It_X8_counts]; rfl
theorem I_X8_counts_50 : zin zm_X8_counts.2.2.2.2.2 50 = some (.iload 6, 2) := by rw [It_X8_counts]; rfl
theorem I_X8_counts_52 : zin zm_X8_counts.2.2.2.2.2 52 = some (.baload, 1) := by rw [It_X8_counts]; rfl
theorem I_X8_counts_53 : zin zm_X8_counts.2.2.2.2.2 53 = some (.ifCond .eq 15, 3) := by rw [It_X8_counts]; rfl
theorem I_X8_counts_56 : zin zm_X8_counts.2.2.2.2.2 56 = some (.iload 4, 2) := by rw [It_X8_counts]; rfl
theorem I_X8_counts_58 : zin zm_X8_counts.2.2.2.2.2 58 = some (.bipush (-4), 2) := by rw [It_X8_counts]; rfl
theorem I_X8_counts_60 : zin zm_X8_counts.2.2.2.2.2 60 = some (.if_icmp .ne 8, 3) := by rw [It_X8_counts]; rfl
theorem I_X8_counts_63 : zin zm_X8_counts.2.2.2.2.2 63 = some (.iload 6, 2) := by rw [It_X8_counts]; rfl
theorem I_X8_counts_65 : zin zm_X8_counts.2.2.2.2.2 65 = some (.goto 5, 3) := by rw [It_X8_counts]; rfl
theorem I_X8_counts_68 : zin zm_X8_counts.2.2.2.2.2 68 = some (.iload 4, 2) := by rw [It_X8_counts]; rfl
theorem I_X8_counts_70 : zin zm_X8_counts.2.2.2.2.2 70 = some (.istore 4, 2) := by rw [It_X8_counts]; rfl
theorem I_X8_counts_72 : zin zm_X8_counts.2.2.2.2.2 72 = some (.aload_n 0, 1) := by rw [It_X8_counts]; rfl
theorem I_X8_counts_73 : zin zm_X8_counts.2.2.2.2.2 73 = some (.getfield 37, 3) := by rw [It_X8_counts]; rfl
theorem I_X8_counts_76 : zin zm_X8_counts.2.2.2.2.2 76 = some (.iload 6, 2) := by rw [It_X8_counts]; rfl
theorem I_X8_counts_78 : zin zm_X8_counts.2.2.2.2.2 78 = some (.baload, 1) := by rw [It_X8_counts]; rfl
theorem I_X8_counts_79 : zin zm_X8_counts.2.2.2.2.2 79 = some (.ifCond .eq 8, 3) := by rw [It_X8_counts]; rfl
theorem I_X8_counts_82 : zin zm_X8_counts.2.2.2.2.2 82 = some (.iload 6, 2) := by rw [It_X8_counts]; rfl
theorem I_X8_counts_84 : zin zm_X8_counts.2.2.2.2.2 84 = some (.goto 5, 3) := by rw [It_X8_counts]; rfl
theorem I_X8_counts_87 : zin zm_X8_counts.2.2.2.2.2 87 = some (.iload 5, 2) := by rw [It_X8_counts]; rfl
theorem I_X8_counts_89 : zin zm_X8_counts.2.2.2.2.2 89 = some (.istore 5, 2) := by rw [It_X8_counts]; rfl
theorem I_X8_counts_91 : zin zm_X8_counts.2.2.2.2.2 91 = some (.iinc 6 1, 3) := by rw [It_X8_counts]; rfl
theorem I_X8_counts_94 : zin zm_X8_counts.2.2.2.2.2 94 = some (.goto (-55), 3) := by rw [It_X8_counts]; rfl
theorem I_X8_counts_97 : zin zm_X8_counts.2.2.2.2.2 97 = some (.iload_n 2, 1) := by rw [It_X8_counts]; rfl
theorem I_X8_counts_98 : zin zm_X8_counts.2.2.2.2.2 98 = some (.ifCond .ne 7, 3) := by rw [It_X8_counts]; rfl
theorem I_X8_counts_101 : zin zm_X8_counts.2.2.2.2.2 101 = some (.iload_n 3, 1) := by rw [It_X8_counts]; rfl
theorem I_X8_counts_102 : zin zm_X8_counts.2.2.2.2.2 102 = some (.goto 15, 3) := by rw [It_X8_counts]; rfl
theorem I_X8_counts_105 : zin zm_X8_counts.2.2.2.2.2 105 = some (.iload_n 2, 1) := by rw [It_X8_counts]; rfl
theorem I_X8_counts_106 : zin zm_X8_counts.2.2.2.2.2 106 = some (.iconst 1, 1) := by rw [It_X8_counts]; rfl
theorem I_X8_counts_107 : zin zm_X8_counts.2.2.2.2.2 107 = some (.if_icmp .ne 8, 3) := by rw [It_X8_counts]; rfl
theorem I_X8_counts_110 : zin zm_X8_counts.2.2.2.2.2 110 = some (.iload 4, 2) := by rw [It_X8_counts]; rfl
theorem I_X8_counts_112 : zin zm_X8_counts.2.2.2.2.2 112 = some (.goto 5, 3) := by rw [It_X8_counts]; rfl
theorem I_X8_counts_115 : zin zm_X8_counts.2.2.2.2.2 115 = some (.iload 5, 2) := by rw [It_X8_counts]; rfl
theorem I_X8_counts_117 : zin zm_X8_counts.2.2.2.2.2 117 = some (.ireturn, 1) := by rw [It_X8_counts]; rfl
theorem I_X8_fitsOf_0 : zin zm_X8_fitsOf.2.2.2.2.2 0 = some (.iconst 0, 1) := by rw [It_X8_fitsOf]; rfl
theorem I_X8_fitsOf_1 : zin zm_X8_fitsOf.2.2.2.2.2 1 = some (.istore_n 2, 1) := by rw [It_X8_fitsOf]; rfl
theorem I_X8_fitsOf_2 : zin zm_X8_fitsOf.2.2.2.2.2 2 = some (.iconst 0, 1) := by rw [It_X8_fitsOf]; rfl
theorem I_X8_fitsOf_3 : zin zm_X8_fitsOf.2.2.2.2.2 3 = some (.istore_n 3, 1) := by rw [It_X8_fitsOf]; rfl
theorem I_X8_fitsOf_4 : zin zm_X8_fitsOf.2.2.2.2.2 4 = some (.iload_n 3, 1) := by rw [It_X8_fitsOf]; rfl
theorem I_X8_fitsOf_5 : zin zm_X8_fitsOf.2.2.2.2.2 5 = some (.bipush 20, 2) := by rw [It_X8_fitsOf]; rfl
theorem I_X8_fitsOf_7 : zin zm_X8_fitsOf.2.2.2.2.2 7 = some (.if_icmp .gt 96, 3) := by rw [It_X8_fitsOf]; rfl
theorem I_X8_fitsOf_10 : zin zm_X8_fitsOf.2.2.2.2.2 10 = some (.aload_n 0, 1) := by rw [It_X8_fitsOf]; rfl
theorem I_X8_fitsOf_11 : zin zm_X8_fitsOf.2.2.2.2.2 11 = some (.iconst 0, 1) := by rw [It_X8_fitsOf]; rfl
theorem I_X8_fitsOf_12 : zin zm_X8_fitsOf.2.2.2.2.2 12 = some (.bipush 108, 2) := by rw [It_X8_fitsOf]; rfl
theorem I_X8_fitsOf_14 : zin zm_X8_fitsOf.2.2.2.2.2 14 = some (.invokevirtual 188, 3) := by rw [It_X8_fitsOf]; rfl
theorem I_X8_fitsOf_17 : zin zm_X8_fitsOf.2.2.2.2.2 17 = some (.aload_n 0, 1) := by rw [It_X8_fitsOf]; rfl
theorem I_X8_fitsOf_18 : zin zm_X8_fitsOf.2.2.2.2.2 18 = some (.getfield 7, 3) := by rw [It_X8_fitsOf]; rfl
theorem I_X8_fitsOf_21 : zin zm_X8_fitsOf.2.2.2.2.2 21 = some (.aload_n 0, 1) := by rw [It_X8_fitsOf]; rfl
theorem I_X8_fitsOf_22 : zin zm_X8_fitsOf.2.2.2.2.2 22 = some (.bipush 108, 2) := by rw [It_X8_fitsOf]; rfl
theorem I_X8_fitsOf_24 : zin zm_X8_fitsOf.2.2.2.2.2 24 = some (.iload_n 1, 1) := by rw [It_X8_fitsOf]; rfl
theorem I_X8_fitsOf_25 : zin zm_X8_fitsOf.2.2.2.2.2 25 = some (.invokevirtual 137, 3) := by rw [It_X8_fitsOf]; rfl
theorem I_X8_fitsOf_28 : zin zm_X8_fitsOf.2.2.2.2.2 28 = some (.iload_n 3, 1) := by rw [It_X8_fitsOf]; rfl
theorem I_X8_fitsOf_29 : zin zm_X8_fitsOf.2.2.2.2.2 29 = some (.iastore, 1) := by rw [It_X8_fitsOf]; rfl
theorem I_X8_fitsOf_30 : zin zm_X8_fitsOf.2.2.2.2.2 30 = some (.aload_n 0, 1) := by rw [It_X8_fitsOf]; rfl
theorem I_X8_fitsOf_31 : zin zm_X8_fitsOf.2.2.2.2.2 31 = some (.iconst 0, 1) := by rw [It_X8_fitsOf]; rfl
theorem I_X8_fitsOf_32 : zin zm_X8_fitsOf.2.2.2.2.2 32 = some (.invokevirtual 192, 3) := by rw [It_X8_fitsOf]; rfl
theorem I_X8_fitsOf_35 : zin zm_X8_fitsOf.2.2.2.2.2 35 = some (.aload_n 0, 1) := by rw [It_X8_fitsOf]; rfl
theorem I_X8_fitsOf_36 : zin zm_X8_fitsOf.2.2.2.2.2 36 = some (.getfield 37, 3) := by rw [It_X8_fitsOf]; rfl
theorem I_X8_fitsOf_39 : zin zm_X8_fitsOf.2.2.2.2.2 39 = some (.iload_n 3, 1) := by rw [It_X8_fitsOf]; rfl
theorem I_X8_fitsOf_40 : zin zm_X8_fitsOf.2.2.2.2.2 40 = some (.aload_n 0, 1) := by rw [It_X8_fitsOf]; rfl
theorem I_X8_fitsOf_41 : zin zm_X8_fitsOf.2.2.2.2.2 41 = some (.invokevirtual 232, 3) := by rw [It_X8_fitsOf]; rfl
theorem I_X8_fitsOf_44 : zin zm_X8_fitsOf.2.2.2.2.2 44 = some (.bastore, 1) := by rw [It_X8_fitsOf]; rfl
theorem I_X8_fitsOf_45 : zin zm_X8_fitsOf.2.2.2.2.2 45 = some (.iload_n 2, 1) := by rw [It_X8_fitsOf]; rfl
theorem I_X8_fitsOf_46 : zin zm_X8_fitsOf.2.2.2.2.2 46 = some (.aload_n 0, 1) := by rw [It_X8_fitsOf]; rfl
theorem I_X8_fitsOf_47 : zin zm_X8_fitsOf.2.2.2.2.2 47 = some (.getfield 37, 3) := by rw [It_X8_fitsOf]; rfl
theorem I_X8_fitsOf_50 : zin zm_X8_fitsOf.2.2.2.2.2 50 = some (.iload_n 3, 1) := by rw [It_X8_fitsOf]; rfl
theorem I_X8_fitsOf_51 : zin zm_X8_fitsOf.2.2.2.2.2 51 = some (.baload, 1) := by rw [It_X8_fitsOf]; rfl
theorem I_X8_fitsOf_52 : zin zm_X8_fitsOf.2.2.2.2.2 52 = some (.ifCond .eq 7, 3) := by rw [It_X8_fitsOf]; rfl
theorem I_X8_fitsOf_55 : zin zm_X8_fitsOf.2.2.2.2.2 55 = some (.iconst 1, 1) := by rw [It_X8_fitsOf]; rfl
theorem I_X8_fitsOf_56 : zin zm_X8_fitsOf.2.2.2.2.2 56 = some (.goto 4, 3) := by rw [It_X8_fitsOf]; rfl
theorem I_X8_fitsOf_59 : zin zm_X8_fitsOf.2.2.2.2.2 59 = some (.iconst 0, 1) := by rw [It_X8_fitsOf]; rfl
theorem I_X8_fitsOf_60 : zin zm_X8_fitsOf.2.2.2.2.2 60 = some (.iadd, 1) := by rw [It_X8_fitsOf]; rfl
theorem I_X8_fitsOf_61 : zin zm_X8_fitsOf.2.2.2.2.2 61 = some (.istore_n 2, 1) := by rw [It_X8_fitsOf]; rfl
theorem I_X8_fitsOf_62 : zin zm_X8_fitsOf.2.2.2.2.2 62 = some (.iconst 0, 1) := by rw [It_X8_fitsOf]; rfl
theorem I_X8_fitsOf_63 : zin zm_X8_fitsOf.2.2.2.2.2 63 = some (.istore 4, 2) := by rw [It_X8_fitsOf]; rfl
theorem I_X8_fitsOf_65 : zin zm_X8_fitsOf.2.2.2.2.2 65 = some (.iload 4, 2) := by rw [It_X8_fitsOf]; rfl
theorem I_X8_fitsOf_67 : zin zm_X8_fitsOf.2.2.2.2.2 67 = some (.bipush 8, 2) := by rw [It_X8_fitsOf]; rfl
theorem I_X8_fitsOf_69 : zin zm_X8_fitsOf.2.2.2.2.2 69 = some (.if_icmp .ge 28, 3) := by rw [It_X8_fitsOf]; rfl
theorem I_X8_fitsOf_72 : zin zm_X8_fitsOf.2.2.2.2.2 72 = some (.aload_n 0, 1) := by rw [It_X8_fitsOf]; rfl
theorem I_X8_fitsOf_73 : zin zm_X8_fitsOf.2.2.2.2.2 73 = some (.getfield 34, 3) := by rw [It_X8_fitsOf]; rfl
theorem I_X8_fitsOf_76 : zin zm_X8_fitsOf.2.2.2.2.2 76 = some (.bipush 8, 2) := by rw [It_X8_fitsOf]; rfl
theorem I_X8_fitsOf_78 : zin zm_X8_fitsOf.2.2.2.2.2 78 = some (.iload_n 3, 1) := by rw [It_X8_fitsOf]; rfl
theorem I_X8_fitsOf_79 : zin zm_X8_fitsOf.2.2.2.2.2 79 = some (.imul, 1) := by rw [It_X8_fitsOf]; rfl
theorem I_X8_fitsOf_80 : zin zm_X8_fitsOf.2.2.2.2.2 80 = some (.iload 4, 2) := by rw [It_X8_fitsOf]; rfl
theorem I_X8_fitsOf_82 : zin zm_X8_fitsOf.2.2.2.2.2 82 = some (.iadd, 1) := by rw [It_X8_fitsOf]; rfl
theorem I_X8_fitsOf_83 : zin zm_X8_fitsOf.2.2.2.2.2 83 = some (.aload_n 0, 1) := by rw [It_X8_fitsOf]; rfl
theorem I_X8_fitsOf_84 : zin zm_X8_fitsOf.2.2.2.2.2 84 = some (.getfield 28, 3) := by rw [It_X8_fitsOf]; rfl
theorem I_X8_fitsOf_87 : zin zm_X8_fitsOf.2.2.2.2.2 87 = some (.iload 4, 2) := by rw [It_X8_fitsOf]; rfl
theorem I_X8_fitsOf_89 : zin zm_X8_fitsOf.2.2.2.2.2 89 = some (.iaload, 1) := by rw [It_X8_fitsOf]; rfl
theorem I_X8_fitsOf_90 : zin zm_X8_fitsOf.2.2.2.2.2 90 = some (.iastore, 1) := by rw [It_X8_fitsOf]; rfl
theorem I_X8_fitsOf_91 : zin zm_X8_fitsOf.2.2.2.2.2 91 = some (.iinc 4 1, 3) := by rw [It_X8_fitsOf]; rfl
theorem I_X8_fitsOf_94 : zin zm_X8_fitsOf.2.2.2.2.2 94 = some (.goto (-29), 3) := by rw [It_X8_fitsOf]; rfl
theorem I_X8_fitsOf_97 : zin zm_X8_fitsOf.2.2.2.2.2 97 = some (.iinc 3 1, 3) := by rw [It_X8_fitsOf]; rfl
theorem I_X8_fitsOf_100 : zin zm_X8_fitsOf.2.2.2.2.2 100 = some (.goto (-96), 3) := by rw [It_X8_fitsOf]; rfl
theorem I_X8_fitsOf_103 : zin zm_X8_fitsOf.2.2.2.2.2 103 = some (.iload_n 2, 1) := by rw [It_X8_fitsOf]; rfl
theorem I_X8_fitsOf_104 : zin zm_X8_fitsOf.2.2.2.2.2 104 = some (.ireturn, 1) := by rw [It_X8_fitsOf]; rfl
theorem I_X8_torn_0 : zin zm_X8_torn.2.2.2.2.2 0 = some (.aload_n 0, 1) := by rw [It_X8_torn]; rfl
theorem I_X8_torn_1 : zin zm_X8_torn.2.2.2.2.2 1 = some (.getfield 244, 3) := by rw [It_X8_torn]; rfl
theorem I_X8_torn_4 : zin zm_X8_torn.2.2.2.2.2 4 = some (.ireturn, 1) := by rw [It_X8_torn]; rfl
theorem G_7_279 : zlk zfls 7 279 = some (5, 1, 285) := rfl
theorem G_7_283 : zlk zfls 7 283 = some (5, 3, 288) := rfl
theorem G_8_34 : zlk zfls 8 34 = some (8, 24, 865) := rfl
theorem G_8_37 : zlk zfls 8 37 = some (8, 25, 866) := rfl
theorem K_0_68 : zlk zmls 0 68 = some (0, 22, 0, 834) := rfl
theorem K_7_284 : zlk zmls 7 284 = some (0, 12, 0, 826) := rfl
theorem K_7_287 : zlk zmls 7 287 = some (0, 13, 0, 830) := rfl
theorem K_8_236 : zlk zmls 8 236 = some (0, 170, 1, 1169) := rfl
theorem Zm_12 : zms[12]? = some zm_X0_allTurned := rfl
theorem Zm_13 : zms[13]? = some zm_X0_allMarks := rfl
theorem Zm_170 : zms[170]? = some zm_X8_fitsOf := rfl
theorem LY_80 : zLY[80]? = some (Sum.inl 0, List.replicate 168 none) := rfl
theorem LY_81 : zLY[81]? = some (Sum.inl 2, List.replicate 21 none) := rfl
theorem cl_X0_allMarks : zm_X0_allMarks.2.2.2.2.1 = 0 := by
  unfold zm_X0_allMarks
  rfl
theorem cn_X0_allMarks : zm_X0_allMarks.2.2.2.2.1 ≠ 12 := by
  rw [cl_X0_allMarks]
  decide
theorem cn2_X0_allMarks : zm_X0_allMarks.2.2.2.2.1 ≠ 2 := by
  rw [cl_X0_allMarks]
  decide
theorem cl_X0_allTurned : zm_X0_allTurned.2.2.2.2.1 = 0 := by
  unfold zm_X0_allTurned
  rfl
theorem cn_X0_allTurned : zm_X0_allTurned.2.2.2.2.1 ≠ 12 := by
  rw [cl_X0_allTurned]
  decide
theorem cn2_X0_allTurned : zm_X0_allTurned.2.2.2.2.1 ≠ 2 := by
  rw [cl_X0_allTurned]
  decide
theorem cl_X7_count : zm_X7_count.2.2.2.2.1 = 7 := by
  unfold zm_X7_count
  rfl
theorem cn_X7_count : zm_X7_count.2.2.2.2.1 ≠ 12 := by
  rw [cl_X7_count]
  decide
theorem cn2_X7_count : zm_X7_count.2.2.2.2.1 ≠ 2 := by
  rw [cl_X7_count]
  decide
theorem cl_X7_counts : zm_X7_counts.2.2.2.2.1 = 7 := by
  unfold zm_X7_counts
  rfl
theorem cn_X7_counts : zm_X7_counts.2.2.2.2.1 ≠ 12 := by
  rw [cl_X7_counts]
  decide
theorem cn2_X7_counts : zm_X7_counts.2.2.2.2.1 ≠ 2 := by
  rw [cl_X7_counts]
  decide
theorem cl_X7_torn : zm_X7_torn.2.2.2.2.1 = 7 := by
  unfold zm_X7_torn
  rfl
theorem cn_X7_torn : zm_X7_torn.2.2.2.2.1 ≠ 12 := by
  rw [cl_X7_torn]
  decide
theorem cn2_X7_torn : zm_X7_torn.2.2.2.2.1 ≠ 2 := by
  rw [cl_X7_torn]
  decide
theorem cl_X8_count : zm_X8_count.2.2.2.2.1 = 8 := by
  unfold zm_X8_count
  rfl
theorem cn_X8_count : zm_X8_count.2.2.2.2.1 ≠ 12 := by
  rw [cl_X8_count]
  decide
theorem cn2_X8_count : zm_X8_count.2.2.2.2.1 ≠ 2 := by
  rw [cl_X8_count]
  decide
theorem cl_X8_counts : zm_X8_counts.2.2.2.2.1 = 8 := by
  unfold zm_X8_counts
  rfl
theorem cn_X8_counts : zm_X8_counts.2.2.2.2.1 ≠ 12 := by
  rw [cl_X8_counts]
  decide
theorem cn2_X8_counts : zm_X8_counts.2.2.2.2.1 ≠ 2 := by
  rw [cl_X8_counts]
  decide
theorem cl_X8_fitsOf : zm_X8_fitsOf.2.2.2.2.1 = 8 := by
  unfold zm_X8_fitsOf
  rfl
theorem cn_X8_fitsOf : zm_X8_fitsOf.2.2.2.2.1 ≠ 12 := by
  rw [cl_X8_fitsOf]
  decide
theorem cn2_X8_fitsOf : zm_X8_fitsOf.2.2.2.2.1 ≠ 2 := by
  rw [cl_X8_fitsOf]
  decide
theorem cl_X8_torn : zm_X8_torn.2.2.2.2.1 = 8 := by
  unfold zm_X8_torn
  rfl
theorem cn_X8_torn : zm_X8_torn.2.2.2.2.1 ≠ 12 := by
  rw [cl_X8_torn]
  decide
theorem cn2_X8_torn : zm_X8_torn.2.2.2.2.1 ≠ 2 := by
  rw [cl_X8_torn]
  decide
theorem t_X7_torn {d : Nat} {m : zM} {r : Option Value} {h' : zHp} (H : zE none d zm_X7_torn 0 [.ref 0] [] m r h') : r = some (.int (m 0 8)) := by
  replace H := i_aln (q := 1) H I_X7_torn_0 rfl rfl
  replace H := i_gfi (q := 4) H I_X7_torn_1 G_7_276 cn_X7_torn LY_0 rfl rfl
  obtain ⟨hr, hh⟩ := i_ir H I_X7_torn_4
  exact hr
theorem t_X8_torn {d : Nat} {m : zM} {r : Option Value} {h' : zHp} (H : zE none d zm_X8_torn 0 [.ref 71] [] m r h') : r = some (.int (m 71 30)) := by
  replace H := i_aln (q := 1) H I_X8_torn_0 rfl rfl
  replace H := i_gfi (q := 4) H I_X8_torn_1 G_8_244 cn_X8_torn LY_71 rfl rfl
  obtain ⟨hr, hh⟩ := i_ir H I_X8_torn_4
  exact hr
theorem pd_torn {m : zM} {r : Option Value} {h' : zHp} (ht : zTy m) (hR : RF m) (H : zEv none 19 zm_X7_torn (0, lv_args 0 [.ref 0], [], zhp m) r h') : ∃ m1 v, r = some (.int v) ∧ h' = zhp m1 ∧ zTy m1 ∧ ∀ r2 h2, zEv none 19 zm_X8_torn (0, lv_args 0 [.ref 71], [], zhp m1) r2 h2 → ∃ m2 v2, r2 = some (.int v2) ∧ h2 = zhp m2 ∧ zTy m2 ∧ RF m2 ∧ v = v2 := by
  have hR0 := hR
  obtain ⟨⟨_, hM, _, _, c, c1, ⟨hL, hb⟩, _⟩, _⟩ := hR
  have hg := gok_11 ht hL
  have hpl := gpl_0 ht
  obtain ⟨a, a6, a7, _⟩ := hL.2.2.2.2.2
  obtain ⟨m1, v, a1, a2, a3, a4⟩ := e_X7_torn ht H
  refine ⟨m1, v, a1, a2, a3, fun r2 h2 H2 => ?_⟩
  obtain ⟨m2, v2, b1, b2, b3, b4⟩ := e_X8_torn a3 H2
  refine ⟨m2, v2, b1, b2, b3, RF_f (RF_f hR0 a4 (by decide +kernel)) b4 (by decide +kernel), ?_⟩
  have hP1 : PG m1 0 (pgf m 0) := ⟨by omega, fun j hj => a4 72 (0 + j) (zpl_r LY_72 (by omega)) (ymd_c (by decide +kernel) _)⟩
  have hM1 : zMk m1 := ⟨(a4 73 0 ⟨_, LY_73, rfl⟩ (by decide +kernel)).trans hM.1, (a4 73 1 ⟨_, LY_73, rfl⟩ (by decide +kernel)).trans hM.2.1, (a4 73 2 ⟨_, LY_73, rfl⟩ (by decide +kernel)).trans hM.2.2.1, (a4 73 3 ⟨_, LY_73, rfl⟩ (by decide +kernel)).trans hM.2.2.2⟩
  have hc1 : m1 71 2 = Int32.ofNat c := (a4 71 2 ⟨_, LY_71, rfl⟩ (by decide +kernel)).trans c1
  have k1 := t_X7_torn (zE_of 0 rfl H)
  have k2 := t_X8_torn (zE_of 0 rfl H2)
  rw [a1] at k1
  rw [b1] at k2
  cases k1
  cases k2
  rw [a4 71 30 ⟨_, LY_71, rfl⟩ (by decide +kernel)]
  exact hR0.2.2
def zsum (f : Nat → Int32) : Nat → Int32
  | 0 => 0
  | n + 1 => zsum f n + f n
theorem zsum_g {f u : Nat → Int32} : ∀ (n : Nat), (∀ i, i < n → f i = u i) → zsum f n = zsum u n
  | 0, _ => rfl
  | n + 1, h => by
    rw [zsum, zsum, zsum_g n (fun i hi => h i (by omega)), h n (by omega)]
def gCnt (s k0 k1 t z : Int32) (c : Nat) (g : Nat → Int32) (w : Int32) : Int32 := if w = 0 then s else if w = 1 then (if k0 = 0 then 0 else 1) + (if k1 = 0 then 0 else 1) else if w = 2 then t else if w = 3 then z else if w = 4 then zsum (gcn g) c else if w = 5 then zsum (fun i => zmrk (g i)) c else -1
theorem at_loop {m : zM} {k c : Nat} (hk : zlk6 k) (hc : m k 2 = Int32.ofNat c) (hc5 : c ≤ 5) : ∀ (j i d : Nat) (r : Option Value) (h' : zHp), i + j = c → zE none d zm_X0_allTurned 4 [.ref k, .int (zsum (zcf m k) i), .int (Int32.ofNat i)] [] m r h' → r = some (.int (zsum (zcf m k) c)) ∧ h' = zhp m := by
  intro j
  induction j with
  | zero =>
    intro i d r h' hj H
    replace H := i_iln (q := 5) H I_X0_allTurned_4 rfl rfl
    replace H := i_aln (q := 6) H I_X0_allTurned_5 rfl rfl
    replace H := i_gfi (q := 9) H I_X0_allTurned_6 G_0_26 cn_X0_allTurned (lk_0 hk) rfl rfl
    have W := i_ic_ge (t := 30) (q := 12) H I_X0_allTurned_9 (by decide) rfl
    clear H
    rcases W with ⟨c_9, H⟩ | ⟨c_9, H⟩
    · skip
      replace H := i_iln (q := 31) H I_X0_allTurned_30 rfl rfl
      obtain ⟨hr, hh⟩ := i_ir H I_X0_allTurned_31
      have e : i = c := by omega
      subst e
      exact ⟨hr, hh⟩
    · exfalso
      rw [hc] at c_9
      exact absurd ((zofn_lt (by omega) (by omega)).mp c_9) (by omega)
  | succ j ih =>
    intro i d r h' hj H
    replace H := i_iln (q := 5) H I_X0_allTurned_4 rfl rfl
    replace H := i_aln (q := 6) H I_X0_allTurned_5 rfl rfl
    replace H := i_gfi (q := 9) H I_X0_allTurned_6 G_0_26 cn_X0_allTurned (lk_0 hk) rfl rfl
    have W := i_ic_ge (t := 30) (q := 12) H I_X0_allTurned_9 (by decide) rfl
    clear H
    rcases W with ⟨c_9, H⟩ | ⟨c_9, H⟩
    · exfalso
      rw [hc] at c_9
      exact c_9 ((zofn_lt (by omega) (by omega)).mpr (by omega))
    · skip
      replace H := i_iln (q := 13) H I_X0_allTurned_12 rfl rfl
      replace H := i_aln (q := 14) H I_X0_allTurned_13 rfl rfl
      replace H := i_gfr (q := 17) H I_X0_allTurned_14 G_0_11 cn_X0_allTurned (lk_0 hk) rfl rfl
      replace H := i_iln (q := 18) H I_X0_allTurned_17 rfl rfl
      have W := i_folk (k := k) hk (q := 19) H I_X0_allTurned_18 rfl
      clear H
      obtain ⟨i_18, bi_18, ei_18, H⟩ := W
      have W := i_cv0 0 (q := 22) H I_X0_allTurned_19 K_0_51 Zm_20 rfl rfl
      clear H
      obtain ⟨r1, h1, Hc, K1, K2⟩ := W
      obtain ⟨e1, e2⟩ := t_X1_turned (lk_p hk bi_18) Hc
      have H := K1 _ _ e1 e2
      clear e1 e2 Hc K1 K2
      replace H := i_iadd (q := 23) H I_X0_allTurned_22 rfl
      replace H := i_isn (q := 24) H I_X0_allTurned_23 rfl rfl
      replace H := i_inc (q := 27) H I_X0_allTurned_24 rfl rfl rfl
      replace H := i_goto (q := 4) H I_X0_allTurned_27 (by decide)
      have e : i = i_18 := zofn ei_18 (by omega) (by omega)
      subst e
      replace H : zE none d zm_X0_allTurned 4 [.ref k, .int (zsum (zcf m k) (i + 1)), .int (Int32.ofNat (i + 1))] [] m r h' := by
        rw [← zofn_s]
        exact H
      exact ih (i + 1) d r h' (by omega) H
theorem t_X0_allTurned {d : Nat} {m : zM} {r : Option Value} {h' : zHp} {k c : Nat} (hk : zlk6 k) (hc : m k 2 = Int32.ofNat c) (hc5 : c ≤ 5) (H : zE none d zm_X0_allTurned 0 [.ref k, .null, .null] [] m r h') : r = some (.int (zsum (zcf m k) c)) ∧ h' = zhp m := by
  replace H := i_icst (x := 0) (q := 1) H I_X0_allTurned_0 (by decide) rfl
  replace H := i_isn (q := 2) H I_X0_allTurned_1 rfl rfl
  replace H := i_icst (x := 0) (q := 3) H I_X0_allTurned_2 (by decide) rfl
  replace H := i_isn (q := 4) H I_X0_allTurned_3 rfl rfl
  exact at_loop hk hc hc5 c 0 d r h' (by omega) H
theorem am_loop {m : zM} {k c : Nat} (hk : zlk6 k) (hc : m k 2 = Int32.ofNat c) (hc5 : c ≤ 5) : ∀ (j i d : Nat) (r : Option Value) (h' : zHp), i + j = c → zE none d zm_X0_allMarks 4 [.ref k, .int (zsum (fun i => zmrk (m (k + 3 + i) 0)) i), .int (Int32.ofNat i)] [] m r h' → r = some (.int (zsum (fun i => zmrk (m (k + 3 + i) 0)) c)) ∧ h' = zhp m := by
  intro j
  induction j with
  | zero =>
    intro i d r h' hj H
    replace H := i_iln (q := 5) H I_X0_allMarks_4 rfl rfl
    replace H := i_aln (q := 6) H I_X0_allMarks_5 rfl rfl
    replace H := i_gfi (q := 9) H I_X0_allMarks_6 G_0_26 cn_X0_allMarks (lk_0 hk) rfl rfl
    have W := i_ic_ge (t := 30) (q := 12) H I_X0_allMarks_9 (by decide) rfl
    clear H
    rcases W with ⟨c_9, H⟩ | ⟨c_9, H⟩
    · skip
      replace H := i_iln (q := 31) H I_X0_allMarks_30 rfl rfl
      obtain ⟨hr, hh⟩ := i_ir H I_X0_allMarks_31
      have e : i = c := by omega
      subst e
      exact ⟨hr, hh⟩
    · exfalso
      rw [hc] at c_9
      exact absurd ((zofn_lt (by omega) (by omega)).mp c_9) (by omega)
  | succ j ih =>
    intro i d r h' hj H
    replace H := i_iln (q := 5) H I_X0_allMarks_4 rfl rfl
    replace H := i_aln (q := 6) H I_X0_allMarks_5 rfl rfl
    replace H := i_gfi (q := 9) H I_X0_allMarks_6 G_0_26 cn_X0_allMarks (lk_0 hk) rfl rfl
    have W := i_ic_ge (t := 30) (q := 12) H I_X0_allMarks_9 (by decide) rfl
    clear H
    rcases W with ⟨c_9, H⟩ | ⟨c_9, H⟩
    · exfalso
      rw [hc] at c_9
      exact c_9 ((zofn_lt (by omega) (by omega)).mpr (by omega))
    · skip
      replace H := i_iln (q := 13) H I_X0_allMarks_12 rfl rfl
      replace H := i_aln (q := 14) H I_X0_allMarks_13 rfl rfl
      replace H := i_gfr (q := 17) H I_X0_allMarks_14 G_0_11 cn_X0_allMarks (lk_0 hk) rfl rfl
      replace H := i_iln (q := 18) H I_X0_allMarks_17 rfl rfl
      have W := i_folk (k := k) hk (q := 19) H I_X0_allMarks_18 rfl
      clear H
      obtain ⟨i_18, bi_18, ei_18, H⟩ := W
      have W := i_cv0 0 (q := 22) H I_X0_allMarks_19 K_0_68 Zm_22 rfl rfl
      clear H
      obtain ⟨r1, h1, Hc, K1, K2⟩ := W
      obtain ⟨e1, e2⟩ := t_X1_marks (lk_p hk bi_18) Hc
      have H := K1 _ _ e1 e2
      clear e1 e2 Hc K1 K2
      replace H := i_iadd (q := 23) H I_X0_allMarks_22 rfl
      replace H := i_isn (q := 24) H I_X0_allMarks_23 rfl rfl
      replace H := i_inc (q := 27) H I_X0_allMarks_24 rfl rfl rfl
      replace H := i_goto (q := 4) H I_X0_allMarks_27 (by decide)
      have e : i = i_18 := zofn ei_18 (by omega) (by omega)
      subst e
      replace H : zE none d zm_X0_allMarks 4 [.ref k, .int (zsum (fun i => zmrk (m (k + 3 + i) 0)) (i + 1)), .int (Int32.ofNat (i + 1))] [] m r h' := by
        rw [← zofn_s]
        exact H
      exact ih (i + 1) d r h' (by omega) H
theorem t_X0_allMarks {d : Nat} {m : zM} {r : Option Value} {h' : zHp} {k c : Nat} (hk : zlk6 k) (hc : m k 2 = Int32.ofNat c) (hc5 : c ≤ 5) (H : zE none d zm_X0_allMarks 0 [.ref k, .null, .null] [] m r h') : r = some (.int (zsum (fun i => zmrk (m (k + 3 + i) 0)) c)) ∧ h' = zhp m := by
  replace H := i_icst (x := 0) (q := 1) H I_X0_allMarks_0 (by decide) rfl
  replace H := i_isn (q := 2) H I_X0_allMarks_1 rfl rfl
  replace H := i_icst (x := 0) (q := 3) H I_X0_allMarks_2 (by decide) rfl
  replace H := i_isn (q := 4) H I_X0_allMarks_3 rfl rfl
  exact am_loop hk hc hc5 c 0 d r h' (by omega) H
theorem t_X7_count {d : Nat} {m : zM} {r : Option Value} {h' : zHp} {w : Int32} {c : Nat} {g : Nat → Int32} (hL : LV m 11 c g) (H : zE none d zm_X7_count 0 [.ref 0, .int w] [] m r h') : r = some (.int (gCnt (m 40 3) (m 45 0) (m 45 1) (m 1 2) (if m 63 1 = 0 then -4 else m 63 3) c g w)) := by
  replace H := i_iln (q := 1) H I_X7_count_0 rfl rfl
  have W := i_ts1 0 (q := 40) H I_X7_count_1 (by decide) rfl (by decide)
  clear H
  rcases W with ⟨w_1_0, H⟩ | ⟨w_1_0, H⟩
  · skip
    replace H := i_aln (q := 41) H I_X7_count_40 rfl rfl
    replace H := i_gfr (q := 44) H I_X7_count_41 G_7_40 cn_X7_count LY_0 rfl rfl
    replace H := i_gfi (q := 47) H I_X7_count_44 G_7_81 cn_X7_count LY_40 rfl rfl
    obtain ⟨hr, hh⟩ := i_ir H I_X7_count_47
    exact hr.trans (by rw [gCnt, if_pos w_1_0])
  · skip
    have W := i_ts1 1 (q := 48) H I_X7_count_1 (by decide) rfl (by decide)
    clear H
    rcases W with ⟨w_1_1, H⟩ | ⟨w_1_1, H⟩
    · skip
      replace H := i_aln (q := 49) H I_X7_count_48 rfl rfl
      replace H := i_gfr (q := 52) H I_X7_count_49 G_7_48 cn_X7_count LY_0 rfl rfl
      replace H := i_icst (x := 0) (q := 53) H I_X7_count_52 (by decide) rfl
      have W := i_ba (q := 54) H I_X7_count_53 LY_45 rfl
      clear H
      obtain ⟨i_53, bi_53, ei_53, H⟩ := W
      have W := i_if_eq (t := 61) (q := 57) H I_X7_count_54 (by decide) rfl
      clear H
      rcases W with ⟨c_54, H⟩ | ⟨c_54, H⟩
      · skip
        replace H := i_icst (x := 0) (q := 62) H I_X7_count_61 (by decide) rfl
        replace H := i_aln (q := 63) H I_X7_count_62 rfl rfl
        replace H := i_gfr (q := 66) H I_X7_count_63 G_7_48 cn_X7_count LY_0 rfl rfl
        replace H := i_icst (x := 1) (q := 67) H I_X7_count_66 (by decide) rfl
        have W := i_ba (q := 68) H I_X7_count_67 LY_45 rfl
        clear H
        obtain ⟨i_67, bi_67, ei_67, H⟩ := W
        have W := i_if_eq (t := 75) (q := 71) H I_X7_count_68 (by decide) rfl
        clear H
        rcases W with ⟨c_68, H⟩ | ⟨c_68, H⟩
        · skip
          replace H := i_icst (x := 0) (q := 76) H I_X7_count_75 (by decide) rfl
          replace H := i_iadd (q := 77) H I_X7_count_76 rfl
          obtain ⟨hr, hh⟩ := i_ir H I_X7_count_77
          have e0 : i_53 = 0 := (zofn (i := 0) ei_53 (by decide) (by omega)).symm
          subst e0
          have e1 : i_67 = 1 := (zofn (i := 1) ei_67 (by decide) (by omega)).symm
          subst e1
          exact hr.trans (by rw [gCnt, if_neg w_1_0, if_pos w_1_1, if_pos c_54, if_pos c_68])
        · skip
          replace H := i_icst (x := 1) (q := 72) H I_X7_count_71 (by decide) rfl
          replace H := i_goto (q := 76) H I_X7_count_72 (by decide)
          replace H := i_iadd (q := 77) H I_X7_count_76 rfl
          obtain ⟨hr, hh⟩ := i_ir H I_X7_count_77
          have e0 : i_53 = 0 := (zofn (i := 0) ei_53 (by decide) (by omega)).symm
          subst e0
          have e1 : i_67 = 1 := (zofn (i := 1) ei_67 (by decide) (by omega)).symm
          subst e1
          exact hr.trans (by rw [gCnt, if_neg w_1_0, if_pos w_1_1, if_pos c_54, if_neg c_68])
      · skip
        replace H := i_icst (x := 1) (q := 58) H I_X7_count_57 (by decide) rfl
        replace H := i_goto (q := 62) H I_X7_count_58 (by decide)
        replace H := i_aln (q := 63) H I_X7_count_62 rfl rfl
        replace H := i_gfr (q := 66) H I_X7_count_63 G_7_48 cn_X7_count LY_0 rfl rfl
        replace H := i_icst (x := 1) (q := 67) H I_X7_count_66 (by decide) rfl
        have W := i_ba (q := 68) H I_X7_count_67 LY_45 rfl
        clear H
        obtain ⟨i_67, bi_67, ei_67, H⟩ := W
        have W := i_if_eq (t := 75) (q := 71) H I_X7_count_68 (by decide) rfl
        clear H
        rcases W with ⟨c_68, H⟩ | ⟨c_68, H⟩
        · skip
          replace H := i_icst (x := 0) (q := 76) H I_X7_count_75 (by decide) rfl
          replace H := i_iadd (q := 77) H I_X7_count_76 rfl
          obtain ⟨hr, hh⟩ := i_ir H I_X7_count_77
          have e0 : i_53 = 0 := (zofn (i := 0) ei_53 (by decide) (by omega)).symm
          subst e0
          have e1 : i_67 = 1 := (zofn (i := 1) ei_67 (by decide) (by omega)).symm
          subst e1
          exact hr.trans (by rw [gCnt, if_neg w_1_0, if_pos w_1_1, if_neg c_54, if_pos c_68])
        · skip
          replace H := i_icst (x := 1) (q := 72) H I_X7_count_71 (by decide) rfl
          replace H := i_goto (q := 76) H I_X7_count_72 (by decide)
          replace H := i_iadd (q := 77) H I_X7_count_76 rfl
          obtain ⟨hr, hh⟩ := i_ir H I_X7_count_77
          have e0 : i_53 = 0 := (zofn (i := 0) ei_53 (by decide) (by omega)).symm
          subst e0
          have e1 : i_67 = 1 := (zofn (i := 1) ei_67 (by decide) (by omega)).symm
          subst e1
          exact hr.trans (by rw [gCnt, if_neg w_1_0, if_pos w_1_1, if_neg c_54, if_neg c_68])
    · skip
      have W := i_ts1 2 (q := 78) H I_X7_count_1 (by decide) rfl (by decide)
      clear H
      rcases W with ⟨w_1_2, H⟩ | ⟨w_1_2, H⟩
      · skip
        replace H := i_aln (q := 79) H I_X7_count_78 rfl rfl
        replace H := i_gfr (q := 82) H I_X7_count_79 G_7_12 cn_X7_count LY_0 rfl rfl
        replace H := i_gfi (q := 85) H I_X7_count_82 G_7_59 cn_X7_count LY_1 rfl rfl
        obtain ⟨hr, hh⟩ := i_ir H I_X7_count_85
        exact hr.trans (by rw [gCnt, if_neg w_1_0, if_neg w_1_1, if_pos w_1_2])
      · skip
        have W := i_ts1 3 (q := 86) H I_X7_count_1 (by decide) rfl (by decide)
        clear H
        rcases W with ⟨w_1_3, H⟩ | ⟨w_1_3, H⟩
        · skip
          replace H := i_aln (q := 87) H I_X7_count_86 rfl rfl
          replace H := i_gfr (q := 90) H I_X7_count_87 G_7_54 cn_X7_count LY_0 rfl rfl
          replace H := i_icst (x := 0) (q := 91) H I_X7_count_90 (by decide) rfl
          have W := i_sht (q := 92) H I_X7_count_91 rfl
          clear H
          obtain ⟨i_91, bi_91, ei_91, H⟩ := W
          replace H := i_gfi (q := 95) H I_X7_count_92 G_7_279 cn_X7_count (sh_0 bi_91) rfl rfl
          have W := i_if_eq (t := 110) (q := 98) H I_X7_count_95 (by decide) rfl
          clear H
          rcases W with ⟨c_95, H⟩ | ⟨c_95, H⟩
          · skip
            replace H := i_bip (x := (-4)) (q := 112) H I_X7_count_110 (by decide) rfl
            obtain ⟨hr, hh⟩ := i_ir H I_X7_count_112
            have e0 : i_91 = 0 := (zofn (i := 0) ei_91 (by decide) (by omega)).symm
            subst e0
            exact hr.trans (by rw [gCnt, if_neg w_1_0, if_neg w_1_1, if_neg w_1_2, if_pos w_1_3, if_pos c_95])
          · skip
            replace H := i_aln (q := 99) H I_X7_count_98 rfl rfl
            replace H := i_gfr (q := 102) H I_X7_count_99 G_7_54 cn_X7_count LY_0 rfl rfl
            replace H := i_icst (x := 0) (q := 103) H I_X7_count_102 (by decide) rfl
            have W := i_sht (q := 104) H I_X7_count_103 rfl
            clear H
            obtain ⟨i_103, bi_103, ei_103, H⟩ := W
            replace H := i_gfi (q := 107) H I_X7_count_104 G_7_283 cn_X7_count (sh_0 bi_103) rfl rfl
            replace H := i_goto (q := 112) H I_X7_count_107 (by decide)
            obtain ⟨hr, hh⟩ := i_ir H I_X7_count_112
            have e0 : i_91 = 0 := (zofn (i := 0) ei_91 (by decide) (by omega)).symm
            subst e0
            have e1 : i_103 = 0 := (zofn (i := 0) ei_103 (by decide) (by omega)).symm
            subst e1
            exact hr.trans (by rw [gCnt, if_neg w_1_0, if_neg w_1_1, if_neg w_1_2, if_pos w_1_3, if_neg c_95])
        · skip
          have W := i_ts1 4 (q := 113) H I_X7_count_1 (by decide) rfl (by decide)
          clear H
          rcases W with ⟨w_1_4, H⟩ | ⟨w_1_4, H⟩
          · skip
            replace H := i_aln (q := 114) H I_X7_count_113 rfl rfl
            replace H := i_gfr (q := 117) H I_X7_count_114 G_7_19 cn_X7_count LY_0 rfl rfl
            have W := i_cv0 2 (q := 120) H I_X7_count_117 K_7_284 Zm_12 rfl rfl
            clear H
            obtain ⟨r1, h1, Hc, K1, K2⟩ := W
            obtain ⟨e1, e2⟩ := t_X0_allTurned lkk_11 hL.1 hL.2.1 Hc
            have H := K1 _ _ e1 e2
            clear e1 e2 Hc K1 K2
            obtain ⟨hr, hh⟩ := i_ir H I_X7_count_120
            exact hr.trans (by rw [gCnt, if_neg w_1_0, if_neg w_1_1, if_neg w_1_2, if_neg w_1_3, if_pos w_1_4, zsum_g c (fun i hi => LV_c hL hi)])
          · skip
            have W := i_ts1 5 (q := 121) H I_X7_count_1 (by decide) rfl (by decide)
            clear H
            rcases W with ⟨w_1_5, H⟩ | ⟨w_1_5, H⟩
            · skip
              replace H := i_aln (q := 122) H I_X7_count_121 rfl rfl
              replace H := i_gfr (q := 125) H I_X7_count_122 G_7_19 cn_X7_count LY_0 rfl rfl
              have W := i_cv0 2 (q := 128) H I_X7_count_125 K_7_287 Zm_13 rfl rfl
              clear H
              obtain ⟨r1, h1, Hc, K1, K2⟩ := W
              obtain ⟨e1, e2⟩ := t_X0_allMarks lkk_11 hL.1 hL.2.1 Hc
              have H := K1 _ _ e1 e2
              clear e1 e2 Hc K1 K2
              obtain ⟨hr, hh⟩ := i_ir H I_X7_count_128
              exact hr.trans (by rw [gCnt, if_neg w_1_0, if_neg w_1_1, if_neg w_1_2, if_neg w_1_3, if_neg w_1_4, if_pos w_1_5, zsum_g c (fun i hi => by rw [(hL.2.2.1 i hi).1])])
            · skip
              replace H := i_tsd (q := 129) H I_X7_count_1 (by have q0 := zne w_1_0 (z := 0) (by decide); have q1 := zne w_1_1 (z := 1) (by decide); have q2 := zne w_1_2 (z := 2) (by decide); have q3 := zne w_1_3 (z := 3) (by decide); have q4 := zne w_1_4 (z := 4) (by decide); have q5 := zne w_1_5 (z := 5) (by decide); omega) (by decide)
              replace H := i_icst (x := (-1)) (q := 130) H I_X7_count_129 (by decide) rfl
              obtain ⟨hr, hh⟩ := i_ir H I_X7_count_130
              exact hr.trans (by rw [gCnt, if_neg w_1_0, if_neg w_1_1, if_neg w_1_2, if_neg w_1_3, if_neg w_1_4, if_neg w_1_5])
theorem cl_8c {m : zM} {c : Nat} {g : Nat → Int32} {w : Int32} (hP : PG m 0 g) (hg : gok g c) (hc : m 71 2 = Int32.ofNat c) (hM : zMk m) : ∀ (j i d : Nat) (r : Option Value) (h' : zHp), i + j = c → zE none d zm_X8_count 7 [.ref 71, .int w, .int (zsum (gcn g) i), .int (zsum (fun i => zmrk (g i)) i), .int (Int32.ofNat i)] [] m r h' → zE none d zm_X8_count 47 [.ref 71, .int w, .int (zsum (gcn g) c), .int (zsum (fun i => zmrk (g i)) c), .null] [] m r h' := by
  intro j
  induction j with
  | zero =>
    intro i d r h' hj H
    have hc5 := hg.1
    replace H := i_il (q := 9) H I_X8_count_7 rfl rfl
    replace H := i_aln (q := 10) H I_X8_count_9 rfl rfl
    replace H := i_gfi (q := 13) H I_X8_count_10 G_8_131 cn_X8_count LY_71 rfl rfl
    have W := i_ic_ge (t := 47) (q := 16) H I_X8_count_13 (by decide) rfl
    clear H
    rcases W with ⟨c_13, H⟩ | ⟨c_13, H⟩
    · skip
      have e : i = c := by omega
      subst e
      exact i_w [true, true, true, true, false] H
    · exfalso
      rw [hc] at c_13
      exact absurd ((zofn_lt (by omega) (by omega)).mp c_13) (by omega)
  | succ j ih =>
    intro i d r h' hj H
    have hc5 := hg.1
    replace H := i_il (q := 9) H I_X8_count_7 rfl rfl
    replace H := i_aln (q := 10) H I_X8_count_9 rfl rfl
    replace H := i_gfi (q := 13) H I_X8_count_10 G_8_131 cn_X8_count LY_71 rfl rfl
    have W := i_ic_ge (t := 47) (q := 16) H I_X8_count_13 (by decide) rfl
    clear H
    rcases W with ⟨c_13, H⟩ | ⟨c_13, H⟩
    · exfalso
      rw [hc] at c_13
      exact c_13 ((zofn_lt (by omega) (by omega)).mpr (by omega))
    · skip
      replace H := i_iln (q := 17) H I_X8_count_16 rfl rfl
      replace H := i_aln (q := 18) H I_X8_count_17 rfl rfl
      replace H := i_icst (x := 0) (q := 19) H I_X8_count_18 (by decide) rfl
      replace H := i_il (q := 21) H I_X8_count_19 rfl rfl
      have W := i_cv2 0 (q := 24) H I_X8_count_21 K_8_141 Zm_129 rfl rfl
      clear H
      obtain ⟨r1, h1, Hc, K1, K2⟩ := W
      obtain ⟨e1, e2⟩ := t_X8_countOf (pg := 0) hP (by omega) Hc
      have H := K1 _ _ e1 e2
      clear e1 e2 Hc K1 K2
      replace H := i_iadd (q := 25) H I_X8_count_24 rfl
      replace H := i_isn (q := 26) H I_X8_count_25 rfl rfl
      replace H := i_iln (q := 27) H I_X8_count_26 rfl rfl
      replace H := i_aln (q := 28) H I_X8_count_27 rfl rfl
      replace H := i_gfr (q := 31) H I_X8_count_28 G_8_13 cn_X8_count LY_71 rfl rfl
      replace H := i_aln (q := 32) H I_X8_count_31 rfl rfl
      replace H := i_gfr (q := 35) H I_X8_count_32 G_8_7 cn_X8_count LY_71 rfl rfl
      replace H := i_il (q := 37) H I_X8_count_35 rfl rfl
      have W := i_ia (q := 38) H I_X8_count_37 LY_72 rfl
      clear H
      obtain ⟨i_37, bi_37, ei_37, H⟩ := W
      have W := i_ia (q := 39) H I_X8_count_38 LY_73 rfl
      clear H
      obtain ⟨i_38, bi_38, ei_38, H⟩ := W
      replace H := i_iadd (q := 40) H I_X8_count_39 rfl
      replace H := i_isn (q := 41) H I_X8_count_40 rfl rfl
      replace H := i_inc (q := 44) H I_X8_count_41 rfl rfl rfl
      replace H := i_goto (q := 7) H I_X8_count_44 (by decide)
      have e : i = i_37 := zofn ei_37 (by omega) (by omega)
      subst e
      have hgi := (hg.2.1 i (by omega)).1
      rw [PG_0 hP (by omega)] at ei_38
      rw [zmk_a hM hgi.1 hgi.2 ei_38 bi_38] at H
      replace H : zE none d zm_X8_count 7 [.ref 71, .int w, .int (zsum (gcn g) (i + 1)), .int (zsum (fun i => zmrk (g i)) (i + 1)), .int (Int32.ofNat (i + 1))] [] m r h' := by
        rw [← zofn_s]
        exact H
      exact ih (i + 1) d r h' (by omega) H
theorem t_X8_count {d : Nat} {m : zM} {r : Option Value} {h' : zHp} {w : Int32} {c : Nat} {g : Nat → Int32} (hP : PG m 0 g) (hg : gok g c) (hc : m 71 2 = Int32.ofNat c) (hM : zMk m) (H : zE none d zm_X8_count 0 [.ref 71, .int w, .null, .null, .null] [] m r h') : r = some (.int (gCnt (m 71 23) (m 82 0) (m 82 1) (m 71 8) (if m 83 0 = -4 then -4 else m 84 0) c g w)) := by
  replace H := i_icst (x := 0) (q := 1) H I_X8_count_0 (by decide) rfl
  replace H := i_isn (q := 2) H I_X8_count_1 rfl rfl
  replace H := i_icst (x := 0) (q := 3) H I_X8_count_2 (by decide) rfl
  replace H := i_isn (q := 4) H I_X8_count_3 rfl rfl
  replace H := i_icst (x := 0) (q := 5) H I_X8_count_4 (by decide) rfl
  replace H := i_is (q := 7) H I_X8_count_5 rfl rfl
  replace H := cl_8c hP hg hc hM c 0 d r h' (by omega) H
  replace H := i_iln (q := 48) H I_X8_count_47 rfl rfl
  have W := i_ts1 0 (q := 88) H I_X8_count_48 (by decide) rfl (by decide)
  clear H
  rcases W with ⟨w_48_0, H⟩ | ⟨w_48_0, H⟩
  · skip
    replace H := i_aln (q := 89) H I_X8_count_88 rfl rfl
    replace H := i_gfi (q := 92) H I_X8_count_89 G_8_134 cn_X8_count LY_71 rfl rfl
    obtain ⟨hr, hh⟩ := i_ir H I_X8_count_92
    exact hr.trans (by rw [gCnt, if_pos w_48_0])
  · skip
    have W := i_ts1 1 (q := 93) H I_X8_count_48 (by decide) rfl (by decide)
    clear H
    rcases W with ⟨w_48_1, H⟩ | ⟨w_48_1, H⟩
    · skip
      replace H := i_aln (q := 94) H I_X8_count_93 rfl rfl
      replace H := i_gfr (q := 97) H I_X8_count_94 G_8_41 cn_X8_count LY_71 rfl rfl
      replace H := i_icst (x := 0) (q := 98) H I_X8_count_97 (by decide) rfl
      have W := i_ba (q := 99) H I_X8_count_98 LY_82 rfl
      clear H
      obtain ⟨i_98, bi_98, ei_98, H⟩ := W
      have W := i_if_eq (t := 106) (q := 102) H I_X8_count_99 (by decide) rfl
      clear H
      rcases W with ⟨c_99, H⟩ | ⟨c_99, H⟩
      · skip
        replace H := i_icst (x := 0) (q := 107) H I_X8_count_106 (by decide) rfl
        replace H := i_aln (q := 108) H I_X8_count_107 rfl rfl
        replace H := i_gfr (q := 111) H I_X8_count_108 G_8_41 cn_X8_count LY_71 rfl rfl
        replace H := i_icst (x := 1) (q := 112) H I_X8_count_111 (by decide) rfl
        have W := i_ba (q := 113) H I_X8_count_112 LY_82 rfl
        clear H
        obtain ⟨i_112, bi_112, ei_112, H⟩ := W
        have W := i_if_eq (t := 120) (q := 116) H I_X8_count_113 (by decide) rfl
        clear H
        rcases W with ⟨c_113, H⟩ | ⟨c_113, H⟩
        · skip
          replace H := i_icst (x := 0) (q := 121) H I_X8_count_120 (by decide) rfl
          replace H := i_iadd (q := 122) H I_X8_count_121 rfl
          obtain ⟨hr, hh⟩ := i_ir H I_X8_count_122
          have e0 : i_98 = 0 := (zofn (i := 0) ei_98 (by decide) (by omega)).symm
          subst e0
          have e1 : i_112 = 1 := (zofn (i := 1) ei_112 (by decide) (by omega)).symm
          subst e1
          exact hr.trans (by rw [gCnt, if_neg w_48_0, if_pos w_48_1, if_pos c_99, if_pos c_113])
        · skip
          replace H := i_icst (x := 1) (q := 117) H I_X8_count_116 (by decide) rfl
          replace H := i_goto (q := 121) H I_X8_count_117 (by decide)
          replace H := i_iadd (q := 122) H I_X8_count_121 rfl
          obtain ⟨hr, hh⟩ := i_ir H I_X8_count_122
          have e0 : i_98 = 0 := (zofn (i := 0) ei_98 (by decide) (by omega)).symm
          subst e0
          have e1 : i_112 = 1 := (zofn (i := 1) ei_112 (by decide) (by omega)).symm
          subst e1
          exact hr.trans (by rw [gCnt, if_neg w_48_0, if_pos w_48_1, if_pos c_99, if_neg c_113])
      · skip
        replace H := i_icst (x := 1) (q := 103) H I_X8_count_102 (by decide) rfl
        replace H := i_goto (q := 107) H I_X8_count_103 (by decide)
        replace H := i_aln (q := 108) H I_X8_count_107 rfl rfl
        replace H := i_gfr (q := 111) H I_X8_count_108 G_8_41 cn_X8_count LY_71 rfl rfl
        replace H := i_icst (x := 1) (q := 112) H I_X8_count_111 (by decide) rfl
        have W := i_ba (q := 113) H I_X8_count_112 LY_82 rfl
        clear H
        obtain ⟨i_112, bi_112, ei_112, H⟩ := W
        have W := i_if_eq (t := 120) (q := 116) H I_X8_count_113 (by decide) rfl
        clear H
        rcases W with ⟨c_113, H⟩ | ⟨c_113, H⟩
        · skip
          replace H := i_icst (x := 0) (q := 121) H I_X8_count_120 (by decide) rfl
          replace H := i_iadd (q := 122) H I_X8_count_121 rfl
          obtain ⟨hr, hh⟩ := i_ir H I_X8_count_122
          have e0 : i_98 = 0 := (zofn (i := 0) ei_98 (by decide) (by omega)).symm
          subst e0
          have e1 : i_112 = 1 := (zofn (i := 1) ei_112 (by decide) (by omega)).symm
          subst e1
          exact hr.trans (by rw [gCnt, if_neg w_48_0, if_pos w_48_1, if_neg c_99, if_pos c_113])
        · skip
          replace H := i_icst (x := 1) (q := 117) H I_X8_count_116 (by decide) rfl
          replace H := i_goto (q := 121) H I_X8_count_117 (by decide)
          replace H := i_iadd (q := 122) H I_X8_count_121 rfl
          obtain ⟨hr, hh⟩ := i_ir H I_X8_count_122
          have e0 : i_98 = 0 := (zofn (i := 0) ei_98 (by decide) (by omega)).symm
          subst e0
          have e1 : i_112 = 1 := (zofn (i := 1) ei_112 (by decide) (by omega)).symm
          subst e1
          exact hr.trans (by rw [gCnt, if_neg w_48_0, if_pos w_48_1, if_neg c_99, if_neg c_113])
    · skip
      have W := i_ts1 2 (q := 123) H I_X8_count_48 (by decide) rfl (by decide)
      clear H
      rcases W with ⟨w_48_2, H⟩ | ⟨w_48_2, H⟩
      · skip
        replace H := i_aln (q := 124) H I_X8_count_123 rfl rfl
        replace H := i_gfi (q := 127) H I_X8_count_124 G_8_59 cn_X8_count LY_71 rfl rfl
        obtain ⟨hr, hh⟩ := i_ir H I_X8_count_127
        exact hr.trans (by rw [gCnt, if_neg w_48_0, if_neg w_48_1, if_pos w_48_2])
      · skip
        have W := i_ts1 3 (q := 128) H I_X8_count_48 (by decide) rfl (by decide)
        clear H
        rcases W with ⟨w_48_3, H⟩ | ⟨w_48_3, H⟩
        · skip
          replace H := i_aln (q := 129) H I_X8_count_128 rfl rfl
          replace H := i_gfr (q := 132) H I_X8_count_129 G_8_44 cn_X8_count LY_71 rfl rfl
          replace H := i_icst (x := 0) (q := 133) H I_X8_count_132 (by decide) rfl
          have W := i_ia (q := 134) H I_X8_count_133 LY_83 rfl
          clear H
          obtain ⟨i_133, bi_133, ei_133, H⟩ := W
          replace H := i_bip (x := (-4)) (q := 136) H I_X8_count_134 (by decide) rfl
          have W := i_ic_ne (t := 144) (q := 139) H I_X8_count_136 (by decide) rfl
          clear H
          rcases W with ⟨c_136, H⟩ | ⟨c_136, H⟩
          · skip
            replace H := i_aln (q := 145) H I_X8_count_144 rfl rfl
            replace H := i_gfr (q := 148) H I_X8_count_145 G_8_47 cn_X8_count LY_71 rfl rfl
            replace H := i_icst (x := 0) (q := 149) H I_X8_count_148 (by decide) rfl
            have W := i_ia (q := 150) H I_X8_count_149 LY_84 rfl
            clear H
            obtain ⟨i_149, bi_149, ei_149, H⟩ := W
            obtain ⟨hr, hh⟩ := i_ir H I_X8_count_150
            have e0 : i_133 = 0 := (zofn (i := 0) ei_133 (by decide) (by omega)).symm
            subst e0
            have e1 : i_149 = 0 := (zofn (i := 0) ei_149 (by decide) (by omega)).symm
            subst e1
            exact hr.trans (by rw [gCnt, if_neg w_48_0, if_neg w_48_1, if_neg w_48_2, if_pos w_48_3, if_neg c_136])
          · skip
            replace H := i_bip (x := (-4)) (q := 141) H I_X8_count_139 (by decide) rfl
            replace H := i_goto (q := 150) H I_X8_count_141 (by decide)
            obtain ⟨hr, hh⟩ := i_ir H I_X8_count_150
            have e0 : i_133 = 0 := (zofn (i := 0) ei_133 (by decide) (by omega)).symm
            subst e0
            exact hr.trans (by rw [gCnt, if_neg w_48_0, if_neg w_48_1, if_neg w_48_2, if_pos w_48_3, if_pos c_136])
        · skip
          have W := i_ts1 4 (q := 151) H I_X8_count_48 (by decide) rfl (by decide)
          clear H
          rcases W with ⟨w_48_4, H⟩ | ⟨w_48_4, H⟩
          · skip
            replace H := i_iln (q := 152) H I_X8_count_151 rfl rfl
            obtain ⟨hr, hh⟩ := i_ir H I_X8_count_152
            exact hr.trans (by rw [gCnt, if_neg w_48_0, if_neg w_48_1, if_neg w_48_2, if_neg w_48_3, if_pos w_48_4])
          · skip
            have W := i_ts1 5 (q := 153) H I_X8_count_48 (by decide) rfl (by decide)
            clear H
            rcases W with ⟨w_48_5, H⟩ | ⟨w_48_5, H⟩
            · skip
              replace H := i_iln (q := 154) H I_X8_count_153 rfl rfl
              obtain ⟨hr, hh⟩ := i_ir H I_X8_count_154
              exact hr.trans (by rw [gCnt, if_neg w_48_0, if_neg w_48_1, if_neg w_48_2, if_neg w_48_3, if_neg w_48_4, if_pos w_48_5])
            · skip
              replace H := i_tsd (q := 155) H I_X8_count_48 (by have q0 := zne w_48_0 (z := 0) (by decide); have q1 := zne w_48_1 (z := 1) (by decide); have q2 := zne w_48_2 (z := 2) (by decide); have q3 := zne w_48_3 (z := 3) (by decide); have q4 := zne w_48_4 (z := 4) (by decide); have q5 := zne w_48_5 (z := 5) (by decide); omega) (by decide)
              replace H := i_icst (x := (-1)) (q := 156) H I_X8_count_155 (by decide) rfl
              obtain ⟨hr, hh⟩ := i_ir H I_X8_count_156
              exact hr.trans (by rw [gCnt, if_neg w_48_0, if_neg w_48_1, if_neg w_48_2, if_neg w_48_3, if_neg w_48_4, if_neg w_48_5])
theorem pd_count {m : zM} {r : Option Value} {h' : zHp} {x0 : Int32} (ht : zTy m) (hR : RF m) (H : zEv none 19 zm_X7_count (0, lv_args 0 [.ref 0, .int x0], [], zhp m) r h') : ∃ m1 v, r = some (.int v) ∧ h' = zhp m1 ∧ zTy m1 ∧ ∀ r2 h2, zEv none 19 zm_X8_count (0, lv_args 0 [.ref 71, .int x0], [], zhp m1) r2 h2 → ∃ m2 v2, r2 = some (.int v2) ∧ h2 = zhp m2 ∧ zTy m2 ∧ RF m2 ∧ v = v2 := by
  have hR0 := hR
  obtain ⟨⟨_, hM, _, _, c, c1, ⟨hL, hb⟩, _⟩, _⟩ := hR
  have hg := gok_11 ht hL
  have hpl := gpl_0 ht
  obtain ⟨a, a6, a7, _⟩ := hL.2.2.2.2.2
  obtain ⟨m1, v, a1, a2, a3, a4⟩ := e_X7_count ht H
  refine ⟨m1, v, a1, a2, a3, fun r2 h2 H2 => ?_⟩
  obtain ⟨m2, v2, b1, b2, b3, b4⟩ := e_X8_count a3 H2
  refine ⟨m2, v2, b1, b2, b3, RF_f (RF_f hR0 a4 (by decide +kernel)) b4 (by decide +kernel), ?_⟩
  have hP1 : PG m1 0 (pgf m 0) := ⟨by omega, fun j hj => a4 72 (0 + j) (zpl_r LY_72 (by omega)) (ymd_c (by decide +kernel) _)⟩
  have hM1 : zMk m1 := ⟨(a4 73 0 ⟨_, LY_73, rfl⟩ (by decide +kernel)).trans hM.1, (a4 73 1 ⟨_, LY_73, rfl⟩ (by decide +kernel)).trans hM.2.1, (a4 73 2 ⟨_, LY_73, rfl⟩ (by decide +kernel)).trans hM.2.2.1, (a4 73 3 ⟨_, LY_73, rfl⟩ (by decide +kernel)).trans hM.2.2.2⟩
  have hc1 : m1 71 2 = Int32.ofNat c := (a4 71 2 ⟨_, LY_71, rfl⟩ (by decide +kernel)).trans c1
  have k1 := t_X7_count hL (zE_of 0 rfl H)
  have k2 := t_X8_count hP1 hg hc1 hM1 (zE_of 3 rfl H2)
  rw [a1] at k1
  rw [b1] at k2
  cases k1
  cases k2
  obtain ⟨⟨⟨n, n1, n2, _⟩, _, ⟨s, _, s2, s3⟩, h5, _⟩, hH, _⟩ := hR0
  rw [a4 71 23 ⟨_, LY_71, rfl⟩ (by decide +kernel), a4 71 8 ⟨_, LY_71, rfl⟩ (by decide +kernel), a4 82 0 ⟨_, LY_82, rfl⟩ (by decide +kernel), a4 82 1 ⟨_, LY_82, rfl⟩ (by decide +kernel), a4 83 0 ⟨_, LY_83, rfl⟩ (by decide +kernel), a4 84 0 ⟨_, LY_84, rfl⟩ (by decide +kernel), n1, n2, s2, s3, h5 0 (by omega), h5 1 (by omega)]
  have e : (if m 63 1 = 0 then -4 else m 63 3) = (if m 83 0 = -4 then -4 else m 84 0) := by
    rcases hH 0 (by omega) with ⟨z1, z2⟩ | ⟨z1, z2, _, z4, _⟩
    · rw [if_pos z1, if_pos z2]
    · rw [if_neg z1, if_neg z2]; exact z4
  rw [e]
def gCv (c : Nat) (g : Nat → Int32) (p v : Nat) : zPy := gPl c (gset g (gat g p) (Int32.ofNat v))
def gCt (c : Nat) (g sa sw : Nat → Int32) (s p v : Nat) : Bool := gFt (gCv c g p v).2.2.2.2 sa sw s 0
def gN (f : Nat → Bool) : Nat → Nat → Int32 → Int32
  | 0, _, n => n
  | j + 1, i, n => if f i = true then gN f j (i + 1) (n + 1) else gN f j (i + 1) n
def gLs (f : Nat → Bool) : Nat → Nat → Int32 → Int32
  | 0, _, n => n
  | j + 1, i, n => if f i = true ∧ n = -4 then gLs f j (i + 1) (Int32.ofNat i) else gLs f j (i + 1) n
def gMs (f : Nat → Bool) : Nat → Nat → Int32 → Int32
  | 0, _, n => n
  | j + 1, i, n => if f i = true then gMs f j (i + 1) (Int32.ofNat i) else gMs f j (i + 1) n
def gCo (w n l u : Int32) : Int32 := if w = 0 then n else if w = 1 then l else u
theorem z_20 {i : Nat} (h : i ≤ 20) : 0 ≤ (Int32.ofNat i).toInt ∧ (Int32.ofNat i).toInt ≤ 99 := by
  rw [zofn_t (by omega)]
  omega
theorem co_7 {c s p : Nat} {w : Int32} {g sa sw : Nat → Int32} (hg : gok g c) (hp : p < c) : ∀ (j i : Nat) (n l u : Int32) (d : Nat) (r : Option Value) (h' : zHp) (m : zM), i + j = 21 → LV m 11 c g → cS m s sa sw → zE none d zm_X7_counts 35 [.ref 0, .int (Int32.ofNat p), .int w, .int n, .int l, .int u, .int (Int32.ofNat i)] [] m r h' → r = some (.int (gCo w (gN (gCt c g sa sw s p) j i n) (gLs (gCt c g sa sw s p) j i l) (gMs (gCt c g sa sw s p) j i u))) := by
  intro j
  induction j with
  | zero =>
    intro i n l u d r h' m hj hL hS H
    replace H := i_il (q := 37) H I_X7_counts_35 rfl rfl
    replace H := i_bip (x := 20) (q := 39) H I_X7_counts_37 (by decide) rfl
    have W := i_ic_gt (t := 93) (q := 42) H I_X7_counts_39 (by decide) rfl
    clear H
    rcases W with ⟨c_39, H⟩ | ⟨c_39, H⟩
    · skip
      replace H := i_iln (q := 94) H I_X7_counts_93 rfl rfl
      have W := i_if_ne (t := 99) (q := 97) H I_X7_counts_94 (by decide) rfl
      clear H
      rcases W with ⟨c_94, H⟩ | ⟨c_94, H⟩
      · skip
        replace H := i_iln (q := 100) H I_X7_counts_99 rfl rfl
        replace H := i_icst (x := 1) (q := 101) H I_X7_counts_100 (by decide) rfl
        have W := i_ic_ne (t := 109) (q := 104) H I_X7_counts_101 (by decide) rfl
        clear H
        rcases W with ⟨c_101, H⟩ | ⟨c_101, H⟩
        · skip
          replace H := i_il (q := 111) H I_X7_counts_109 rfl rfl
          obtain ⟨hr, hh⟩ := i_ir H I_X7_counts_111
          exact hr.trans (by rw [gCo, if_neg c_94, if_neg c_101]; rfl)
        · skip
          replace H := i_il (q := 106) H I_X7_counts_104 rfl rfl
          replace H := i_goto (q := 111) H I_X7_counts_106 (by decide)
          obtain ⟨hr, hh⟩ := i_ir H I_X7_counts_111
          exact hr.trans (by rw [gCo, if_neg c_94, if_pos c_101]; rfl)
      · skip
        replace H := i_iln (q := 98) H I_X7_counts_97 rfl rfl
        obtain ⟨hr, hh⟩ := i_ir H I_X7_counts_98
        exact hr.trans (by rw [gCo, if_pos c_94]; rfl)
    · exfalso
      exact c_39 ((zofn_lt (i := 20) (by decide) (by omega)).mpr (by omega))
  | succ j ih =>
    intro i n l u d r h' m hj hL hS H
    replace H := i_il (q := 37) H I_X7_counts_35 rfl rfl
    replace H := i_bip (x := 20) (q := 39) H I_X7_counts_37 (by decide) rfl
    have W := i_ic_gt (t := 93) (q := 42) H I_X7_counts_39 (by decide) rfl
    clear H
    rcases W with ⟨c_39, H⟩ | ⟨c_39, H⟩
    · exfalso
      exact absurd ((zofn_lt (i := 20) (by decide) (by omega)).mp c_39) (by omega)
    · skip
      replace H := i_aln (q := 43) H I_X7_counts_42 rfl rfl
      replace H := i_iln (q := 44) H I_X7_counts_43 rfl rfl
      replace H := i_il (q := 46) H I_X7_counts_44 rfl rfl
      have W := i_cv2 0 (q := 49) H I_X7_counts_46 K_7_204 Zm_88 rfl rfl
      clear H
      obtain ⟨r1, h1, Hc, K1, K2⟩ := W
      obtain ⟨M_46, e1, e2, F_46⟩ := t_X7_rehearseWith (p := p) hL hg hp (z_20 (by omega)) Hc
      have H := K1 _ _ e1 e2
      clear e1 e2 Hc K1 K2
      replace H := i_pop (q := 50) H I_X7_counts_49 rfl rfl
      replace H := i_aln (q := 51) H I_X7_counts_50 rfl rfl
      replace H := i_gfr (q := 54) H I_X7_counts_51 G_7_40 cn_X7_counts LY_0 rfl rfl
      replace H := i_aln (q := 55) H I_X7_counts_54 rfl rfl
      replace H := i_gfr (q := 58) H I_X7_counts_55 G_7_26 cn_X7_counts LY_0 rfl rfl
      have W := i_cv1 1 (q := 61) H I_X7_counts_58 K_7_243 Zm_60 rfl rfl
      clear H
      obtain ⟨r1, h1, Hc, K1, K2⟩ := W
      obtain ⟨e1, e2⟩ := t_X6_fits (cS_f hS (fun a b h1 h2 => F_46.2 a b (by omega))) F_46.1.2.2.2.2 Hc
      have H := K1 _ _ e1 e2
      clear e1 e2 Hc K1 K2
      have W := i_if_eq (t := 87) (q := 64) H I_X7_counts_61 (by decide) rfl
      clear H
      rcases W with ⟨c_61, H⟩ | ⟨c_61, H⟩
      · skip
        replace H := i_inc (q := 90) H I_X7_counts_87 rfl rfl rfl
        replace H := i_goto (q := 35) H I_X7_counts_90 (by decide)
        have hf : ¬ gCt c g sa sw s p i = true := zif0 c_61
        replace H : zE none d zm_X7_counts 35 [.ref 0, .int (Int32.ofNat p), .int w, .int n, .int l, .int u, .int (Int32.ofNat (i + 1))] [] M_46 r h' := by
          rw [← zofn_s]
          exact H
        rw [gN, gLs, gMs, if_neg hf, if_neg (fun q => hf q.1), if_neg hf]
        exact ih (i + 1) n l u d r h' M_46 (by omega) (LV_f hL (fun a b h1 h2 => F_46.2 a b (by omega))) (cS_f hS (fun a b h1 h2 => F_46.2 a b (by omega))) H
      · skip
        replace H := i_inc (q := 67) H I_X7_counts_64 rfl rfl rfl
        replace H := i_il (q := 69) H I_X7_counts_67 rfl rfl
        replace H := i_bip (x := (-4)) (q := 71) H I_X7_counts_69 (by decide) rfl
        have W := i_ic_ne (t := 79) (q := 74) H I_X7_counts_71 (by decide) rfl
        clear H
        rcases W with ⟨c_71, H⟩ | ⟨c_71, H⟩
        · skip
          replace H := i_il (q := 81) H I_X7_counts_79 rfl rfl
          replace H := i_is (q := 83) H I_X7_counts_81 rfl rfl
          replace H := i_il (q := 85) H I_X7_counts_83 rfl rfl
          replace H := i_is (q := 87) H I_X7_counts_85 rfl rfl
          replace H := i_inc (q := 90) H I_X7_counts_87 rfl rfl rfl
          replace H := i_goto (q := 35) H I_X7_counts_90 (by decide)
          have hf :  gCt c g sa sw s p i = true := zif1 c_61
          replace H : zE none d zm_X7_counts 35 [.ref 0, .int (Int32.ofNat p), .int w, .int (n + 1), .int l, .int (Int32.ofNat i), .int (Int32.ofNat (i + 1))] [] M_46 r h' := by
            rw [← zofn_s]
            exact H
          rw [gN, gLs, gMs, if_pos hf, if_neg (fun q => c_71 q.2), if_pos hf]
          exact ih (i + 1) (n + 1) l (Int32.ofNat i) d r h' M_46 (by omega) (LV_f hL (fun a b h1 h2 => F_46.2 a b (by omega))) (cS_f hS (fun a b h1 h2 => F_46.2 a b (by omega))) H
        · skip
          replace H := i_il (q := 76) H I_X7_counts_74 rfl rfl
          replace H := i_goto (q := 81) H I_X7_counts_76 (by decide)
          replace H := i_is (q := 83) H I_X7_counts_81 rfl rfl
          replace H := i_il (q := 85) H I_X7_counts_83 rfl rfl
          replace H := i_is (q := 87) H I_X7_counts_85 rfl rfl
          replace H := i_inc (q := 90) H I_X7_counts_87 rfl rfl rfl
          replace H := i_goto (q := 35) H I_X7_counts_90 (by decide)
          have hf :  gCt c g sa sw s p i = true := zif1 c_61
          replace H : zE none d zm_X7_counts 35 [.ref 0, .int (Int32.ofNat p), .int w, .int (n + 1), .int (Int32.ofNat i), .int (Int32.ofNat i), .int (Int32.ofNat (i + 1))] [] M_46 r h' := by
            rw [← zofn_s]
            exact H
          rw [gN, gLs, gMs, if_pos hf, if_pos ⟨hf, c_71⟩, if_pos hf]
          exact ih (i + 1) (n + 1) (Int32.ofNat i) (Int32.ofNat i) d r h' M_46 (by omega) (LV_f hL (fun a b h1 h2 => F_46.2 a b (by omega))) (cS_f hS (fun a b h1 h2 => F_46.2 a b (by omega))) H
def gCounts (c : Nat) (g sa sw : Nat → Int32) (s p : Nat) (w : Int32) : Int32 := if zBt w 0 2 then gCo w (gN (gCt c g sa sw s p) 21 0 0) (gLs (gCt c g sa sw s p) 21 0 (-4)) (gMs (gCt c g sa sw s p) 21 0 (-4)) else -1
theorem t_X7_counts {d : Nat} {m : zM} {r : Option Value} {h' : zHp} {c s p : Nat} {w : Int32} {g sa sw : Nat → Int32} (hL : LV m 11 c g) (hg : gok g c) (hS : cS m s sa sw) (hp : p < c) (H : zE none d zm_X7_counts 0 [.ref 0, .int (Int32.ofNat p), .int w, .null, .null, .null, .null] [] m r h') : r = some (.int (gCounts c g sa sw s p w)) := by
  replace H := i_aln (q := 1) H I_X7_counts_0 rfl rfl
  replace H := i_gfr (q := 4) H I_X7_counts_1 G_7_19 cn_X7_counts LY_0 rfl rfl
  replace H := i_iln (q := 5) H I_X7_counts_4 rfl rfl
  have W := i_cv1 0 (q := 8) H I_X7_counts_5 K_7_112 Zm_3 rfl rfl
  clear H
  obtain ⟨r1, h1, Hc, K1, K2⟩ := W
  obtain ⟨e1, e2⟩ := t_X0_has lkk_11 Hc
  have H := K1 _ _ e1 e2
  clear e1 e2 Hc K1 K2
  have W := i_if_eq (t := 20) (q := 11) H I_X7_counts_8 (by decide) rfl
  clear H
  rcases W with ⟨c_8, H⟩ | ⟨c_8, H⟩
  · skip
    replace H := i_icst (x := (-1)) (q := 21) H I_X7_counts_20 (by decide) rfl
    obtain ⟨hr, hh⟩ := i_ir H I_X7_counts_21
    exfalso
    rw [hL.1] at c_8
    exact zif0 c_8 (zis_n hL.2.1 hp)
  · skip
    replace H := i_iln (q := 12) H I_X7_counts_11 rfl rfl
    have W := i_if_lt (t := 20) (q := 15) H I_X7_counts_12 (by decide) rfl
    clear H
    rcases W with ⟨c_12, H⟩ | ⟨c_12, H⟩
    · skip
      replace H := i_icst (x := (-1)) (q := 21) H I_X7_counts_20 (by decide) rfl
      obtain ⟨hr, hh⟩ := i_ir H I_X7_counts_21
      exact hr.trans (by rw [gCounts, if_neg (fun q => q.1 c_12)])
    · skip
      replace H := i_iln (q := 16) H I_X7_counts_15 rfl rfl
      replace H := i_icst (x := 2) (q := 17) H I_X7_counts_16 (by decide) rfl
      have W := i_ic_le (t := 22) (q := 20) H I_X7_counts_17 (by decide) rfl
      clear H
      rcases W with ⟨c_17, H⟩ | ⟨c_17, H⟩
      · skip
        replace H := i_icst (x := 0) (q := 23) H I_X7_counts_22 (by decide) rfl
        replace H := i_isn (q := 24) H I_X7_counts_23 rfl rfl
        replace H := i_bip (x := (-4)) (q := 26) H I_X7_counts_24 (by decide) rfl
        replace H := i_is (q := 28) H I_X7_counts_26 rfl rfl
        replace H := i_bip (x := (-4)) (q := 30) H I_X7_counts_28 (by decide) rfl
        replace H := i_is (q := 32) H I_X7_counts_30 rfl rfl
        replace H := i_icst (x := 0) (q := 33) H I_X7_counts_32 (by decide) rfl
        replace H := i_is (q := 35) H I_X7_counts_33 rfl rfl
        rw [gCounts, if_pos ⟨c_12, c_17⟩]
        exact co_7 hg hp 21 0 0 (-4) (-4) d r h' m rfl hL hS H
      · skip
        replace H := i_icst (x := (-1)) (q := 21) H I_X7_counts_20 (by decide) rfl
        obtain ⟨hr, hh⟩ := i_ir H I_X7_counts_21
        exact hr.trans (by rw [gCounts, if_neg (fun q => q.2 c_17)])
theorem t_X7_countsN {d : Nat} {m : zM} {r : Option Value} {h' : zHp} {c : Nat} {x w : Int32} (hc : m 11 2 = Int32.ofNat c) (hx : ¬ zIs x c) (H : zE none d zm_X7_counts 0 [.ref 0, .int x, .int w, .null, .null, .null, .null] [] m r h') : r = some (.int (-1)) := by
  replace H := i_aln (q := 1) H I_X7_counts_0 rfl rfl
  replace H := i_gfr (q := 4) H I_X7_counts_1 G_7_19 cn_X7_counts LY_0 rfl rfl
  replace H := i_iln (q := 5) H I_X7_counts_4 rfl rfl
  have W := i_cv1 0 (q := 8) H I_X7_counts_5 K_7_112 Zm_3 rfl rfl
  clear H
  obtain ⟨r1, h1, Hc, K1, K2⟩ := W
  obtain ⟨e1, e2⟩ := t_X0_has lkk_11 Hc
  have H := K1 _ _ e1 e2
  clear e1 e2 Hc K1 K2
  have W := i_if_eq (t := 20) (q := 11) H I_X7_counts_8 (by decide) rfl
  clear H
  rcases W with ⟨c_8, H⟩ | ⟨c_8, H⟩
  · skip
    replace H := i_icst (x := (-1)) (q := 21) H I_X7_counts_20 (by decide) rfl
    obtain ⟨hr, hh⟩ := i_ir H I_X7_counts_21
    exact hr
  · skip
    rw [hc] at c_8
    exact absurd (zif1 c_8) hx
theorem fi_loop {v : Nat} {x n : Int32} (hv : v ≤ 20) : ∀ (j i d : Nat) (r : Option Value) (h' : zHp) (m : zM), i + j = 8 → zE none d zm_X8_fitsOf 65 [.ref 71, .int x, .int n, .int (Int32.ofNat v), .int (Int32.ofNat i)] [] m r h' → ∃ m1, (∀ i', i ≤ i' → i' < 8 → m1 80 (8 * v + i') = m 78 i') ∧ (∀ a b, ¬ (a = 80 ∧ 8 * v + i ≤ b ∧ b < 8 * v + 8) → m1 a b = m a b) ∧ zE none d zm_X8_fitsOf 97 [.ref 71, .int x, .int n, .int (Int32.ofNat v), .null] [] m1 r h' := by
  intro j
  induction j with
  | zero =>
    intro i d r h' m hj H
    replace H := i_il (q := 67) H I_X8_fitsOf_65 rfl rfl
    replace H := i_bip (x := 8) (q := 69) H I_X8_fitsOf_67 (by decide) rfl
    have W := i_ic_ge (t := 97) (q := 72) H I_X8_fitsOf_69 (by decide) rfl
    clear H
    rcases W with ⟨c_69, H⟩ | ⟨c_69, H⟩
    · skip
      exact ⟨m, fun i' h1 h2 => by omega, fun _ _ _ => rfl, i_w [true, true, true, true, false] H⟩
    · exfalso
      exact absurd ((zofn_lt (j := 8) (by omega) (by decide)).mp c_69) (by omega)
  | succ j ih =>
    intro i d r h' m hj H
    replace H := i_il (q := 67) H I_X8_fitsOf_65 rfl rfl
    replace H := i_bip (x := 8) (q := 69) H I_X8_fitsOf_67 (by decide) rfl
    have W := i_ic_ge (t := 97) (q := 72) H I_X8_fitsOf_69 (by decide) rfl
    clear H
    rcases W with ⟨c_69, H⟩ | ⟨c_69, H⟩
    · exfalso
      exact c_69 ((zofn_lt (j := 8) (by omega) (by decide)).mpr (by omega))
    · skip
      replace H := i_aln (q := 73) H I_X8_fitsOf_72 rfl rfl
      replace H := i_gfr (q := 76) H I_X8_fitsOf_73 G_8_34 cn_X8_fitsOf LY_71 rfl rfl
      replace H := i_bip (x := 8) (q := 78) H I_X8_fitsOf_76 (by decide) rfl
      replace H := i_iln (q := 79) H I_X8_fitsOf_78 rfl rfl
      replace H := i_imul (q := 80) H I_X8_fitsOf_79 rfl
      replace H := i_il (q := 82) H I_X8_fitsOf_80 rfl rfl
      replace H := i_iadd (q := 83) H I_X8_fitsOf_82 rfl
      replace H := i_aln (q := 84) H I_X8_fitsOf_83 rfl rfl
      replace H := i_gfr (q := 87) H I_X8_fitsOf_84 G_8_28 cn_X8_fitsOf LY_71 rfl rfl
      replace H := i_il (q := 89) H I_X8_fitsOf_87 rfl rfl
      have W := i_ia (q := 90) H I_X8_fitsOf_89 LY_78 rfl
      clear H
      obtain ⟨i_89, bi_89, ei_89, H⟩ := W
      have W := i_iast (q := 91) H I_X8_fitsOf_90 LY_80 rfl
      clear H
      obtain ⟨i_90, bi_90, ei_90, H⟩ := W
      replace H := i_inc (q := 94) H I_X8_fitsOf_91 rfl rfl rfl
      replace H := i_goto (q := 65) H I_X8_fitsOf_94 (by decide)
      have e1 : i = i_89 := zofn ei_89 (by omega) (by omega)
      subst e1
      have e2 : i_90 = 8 * v + i := (zofn (by rw [Int32.ofNat_add, Int32.ofNat_mul]; exact ei_90) (by omega) (by omega)).symm
      subst e2
      replace H : zE none d zm_X8_fitsOf 65 [.ref 71, .int x, .int n, .int (Int32.ofNat v), .int (Int32.ofNat (i + 1))] [] (zup m 80 (8 * v + i) (m 78 i)) r h' := by
        rw [← zofn_s]
        exact H
      obtain ⟨m1, g1, g2, g3⟩ := ih (i + 1) d r h' _ (by omega) H
      refine ⟨m1, fun i' h1 h2 => ?_, fun a b hab => ?_, g3⟩
      · by_cases e : i' = i
        · subst e
          rw [g2 _ _ (by omega), zup_s]
        · rw [g1 i' (by omega) h2, zup_n (by omega)]
      · rw [g2 a b (by omega), zup_n (by omega)]
def zfF (m m1 : zM) : Prop := ∀ x y, ¬ (x = 72 ∧ 108 ≤ y) → ¬ (x = 71 ∧ 18 ≤ y ∧ y ≤ 20) → ¬ x = 78 → ¬ x = 80 → ¬ x = 81 → m1 x y = m x y
theorem z_narb {t : Nat ⊕ Nat} {b : Bool} : vp_nar (if t = Sum.inl 1 then .byte else .boolean) (if b = true then 1 else 0) = (if b = true then 1 else 0) := by
  cases b with
  | false => exact z_nar0
  | true => exact z_nar1
theorem fo_loop {c a : Nat} {g : Nat → Int32} (hg : gok g c) (hpl : gpl g) (ha : g 26 = Int32.ofNat a) (ha8 : a ≤ 8) {s p : Nat} {sa sw : Nat → Int32} (hp : p < c) : ∀ (j i : Nat) (n : Int32) (d : Nat) (r : Option Value) (h' : zHp) (m : zM), i + j = 21 → PG m 0 g → m 71 2 = Int32.ofNat c → zMk m → rS m s sa sw → zE none d zm_X8_fitsOf 4 [.ref 71, .int (Int32.ofNat p), .int n, .int (Int32.ofNat i), .null] [] m r h' → ∃ m1, r = some (.int (gN (gCt c g sa sw s p) j i n)) ∧ h' = zhp m1 ∧ (∀ v, i ≤ v → v < 21 → m1 81 v = (if gCt c g sa sw s p v = true then 1 else 0) ∧ ∀ k, k < 8 → m1 80 (8 * v + k) = (gCv c g p v).2.2.2.2 k) ∧ zfF m m1 ∧ ∀ v, v < i → m1 81 v = m 81 v ∧ ∀ k, k < 8 → m1 80 (8 * v + k) = m 80 (8 * v + k) := by
  intro j
  induction j with
  | zero =>
    intro i n d r h' m hj hP hc hM hS H
    have hc5 := hg.1
    replace H := i_iln (q := 5) H I_X8_fitsOf_4 rfl rfl
    replace H := i_bip (x := 20) (q := 7) H I_X8_fitsOf_5 (by decide) rfl
    have W := i_ic_gt (t := 103) (q := 10) H I_X8_fitsOf_7 (by decide) rfl
    clear H
    rcases W with ⟨c_7, H⟩ | ⟨c_7, H⟩
    · skip
      replace H := i_iln (q := 104) H I_X8_fitsOf_103 rfl rfl
      obtain ⟨hr, hh⟩ := i_ir H I_X8_fitsOf_104
      exact ⟨m, hr, hh, fun v' h1 h2 => by omega, fun _ _ _ _ _ _ _ => rfl, fun v' h1 => ⟨rfl, fun _ _ => rfl⟩⟩
    · exfalso
      exact c_7 ((zofn_lt (i := 20) (by decide) (by omega)).mpr (by omega))
  | succ j ih =>
    intro i n d r h' m hj hP hc hM hS H
    have hc5 := hg.1
    replace H := i_iln (q := 5) H I_X8_fitsOf_4 rfl rfl
    replace H := i_bip (x := 20) (q := 7) H I_X8_fitsOf_5 (by decide) rfl
    have W := i_ic_gt (t := 103) (q := 10) H I_X8_fitsOf_7 (by decide) rfl
    clear H
    rcases W with ⟨c_7, H⟩ | ⟨c_7, H⟩
    · exfalso
      exact absurd ((zofn_lt (i := 20) (by decide) (by omega)).mp c_7) (by omega)
    · skip
      replace H := i_aln (q := 11) H I_X8_fitsOf_10 rfl rfl
      replace H := i_icst (x := 0) (q := 12) H I_X8_fitsOf_11 (by decide) rfl
      replace H := i_bip (x := 108) (q := 14) H I_X8_fitsOf_12 (by decide) rfl
      have W := i_cv2 1 (q := 17) H I_X8_fitsOf_14 K_8_188 Zm_147 rfl rfl
      clear H
      obtain ⟨r1, h1, Hc, K1, K2⟩ := W
      obtain ⟨M_14, e1, e2, F_14⟩ := t_X8_copies (f := 0) (t := 108) rfl rfl (by omega) (by omega) (by omega) Hc
      have H := K2 _ e1 e2
      clear e1 e2 Hc K1 K2
      replace H := i_aln (q := 18) H I_X8_fitsOf_17 rfl rfl
      replace H := i_gfr (q := 21) H I_X8_fitsOf_18 G_8_7 cn_X8_fitsOf LY_71 rfl rfl
      replace H := i_aln (q := 22) H I_X8_fitsOf_21 rfl rfl
      replace H := i_bip (x := 108) (q := 24) H I_X8_fitsOf_22 (by decide) rfl
      replace H := i_iln (q := 25) H I_X8_fitsOf_24 rfl rfl
      have W := i_cv2 0 (q := 28) H I_X8_fitsOf_25 K_8_137 Zm_128 rfl rfl
      clear H
      obtain ⟨r1, h1, Hc, K1, K2⟩ := W
      have y0 := gat_k (g := g) (p := p) (by omega)
      obtain ⟨e1, e2⟩ := t_X8_countAt (pg := 108) (i := p) (PG_cp hP F_14) (by omega) Hc
      have H := K1 _ _ e1 e2
      clear e1 e2 Hc K1 K2
      replace H := i_iln (q := 29) H I_X8_fitsOf_28 rfl rfl
      have W := i_iast (q := 30) H I_X8_fitsOf_29 LY_72 rfl
      clear H
      obtain ⟨i_29, bi_29, ei_29, H⟩ := W
      replace H := i_aln (q := 31) H I_X8_fitsOf_30 rfl rfl
      replace H := i_icst (x := 0) (q := 32) H I_X8_fitsOf_31 (by decide) rfl
      have W := i_cv1 2 (q := 35) H I_X8_fitsOf_32 K_8_192 Zm_148 rfl rfl
      clear H
      obtain ⟨r1, h1, Hc, K1, K2⟩ := W
      have e29 : 108 + gat g p = i_29 := zofn ei_29 (by omega) (by omega)
      subst e29
      obtain ⟨M_32, e1, e2, F_32⟩ := t_goes0 (PG_up (PG_cp hP F_14) (by omega)) (gok_c hg hp (z_20 (by omega))) ((gset_n (by omega)).trans ha) ha8 (gpl_s hpl (by omega)) ((zup_n (by omega)).trans ((F_14.2 71 2 (by omega)).trans hc)) (zMk_f hM (fun b => (zup_n (by omega)).trans (F_14.2 73 b (by omega)))) Hc
      have H := K2 _ e1 e2
      clear e1 e2 Hc K1 K2
      replace H := i_aln (q := 36) H I_X8_fitsOf_35 rfl rfl
      replace H := i_gfr (q := 39) H I_X8_fitsOf_36 G_8_37 cn_X8_fitsOf LY_71 rfl rfl
      replace H := i_iln (q := 40) H I_X8_fitsOf_39 rfl rfl
      replace H := i_aln (q := 41) H I_X8_fitsOf_40 rfl rfl
      have W := i_cv0 2 (q := 44) H I_X8_fitsOf_41 K_8_232 Zm_169 rfl rfl
      clear H
      obtain ⟨r1, h1, Hc, K1, K2⟩ := W
      obtain ⟨e1, e2⟩ := t_X8_isAsSeen (rS_f hS ((F_32.2 71 23 (by omega) (by omega) (by omega)).trans ((zup_n (by omega)).trans (F_14.2 71 23 (by omega)))) (fun b => ((F_32.2 79 b (by omega) (by omega) (by omega)).trans ((zup_n (by omega)).trans (F_14.2 79 b (by omega)))))) F_32.1.2.2.2.2 Hc
      have H := K1 _ _ e1 e2
      clear e1 e2 Hc K1 K2
      have W := i_bast (q := 45) H I_X8_fitsOf_44 LY_81 rfl
      clear H
      obtain ⟨i_44, bi_44, ei_44, H⟩ := W
      replace H := i_iln (q := 46) H I_X8_fitsOf_45 rfl rfl
      replace H := i_aln (q := 47) H I_X8_fitsOf_46 rfl rfl
      replace H := i_gfr (q := 50) H I_X8_fitsOf_47 G_8_37 cn_X8_fitsOf LY_71 rfl rfl
      replace H := i_iln (q := 51) H I_X8_fitsOf_50 rfl rfl
      have W := i_ba (q := 52) H I_X8_fitsOf_51 LY_81 rfl
      clear H
      obtain ⟨i_51, bi_51, ei_51, H⟩ := W
      have W := i_if_eq (t := 59) (q := 55) H I_X8_fitsOf_52 (by decide) rfl
      clear H
      rcases W with ⟨c_52, H⟩ | ⟨c_52, H⟩
      · skip
        replace H := i_icst (x := 0) (q := 60) H I_X8_fitsOf_59 (by decide) rfl
        replace H := i_iadd (q := 61) H I_X8_fitsOf_60 rfl
        replace H := i_isn (q := 62) H I_X8_fitsOf_61 rfl rfl
        replace H := i_icst (x := 0) (q := 63) H I_X8_fitsOf_62 (by decide) rfl
        replace H := i_is (q := 65) H I_X8_fitsOf_63 rfl rfl
        have e44 : i = i_44 := zofn ei_44 (by omega) (by omega)
        subst e44
        have e51 : i = i_51 := zofn ei_51 (by omega) (by omega)
        subst e51
        rw [z_narb] at c_52 H
        rw [zup_s] at c_52
        have hf : ¬ gCt c g sa sw s p i = true := zif0 c_52
        obtain ⟨m3, g1, g2, H⟩ := fi_loop (v := i) (by omega) 8 0 d r h' _ (by omega) H
        replace H := i_inc (q := 100) H I_X8_fitsOf_97 rfl rfl rfl
        replace H := i_goto (q := 4) H I_X8_fitsOf_100 (by decide)
        replace H : zE none d zm_X8_fitsOf 4 [.ref 71, .int (Int32.ofNat p), .int n, .int (Int32.ofNat (i + 1)), .null] [] m3 r h' := by
          rw [← zofn_s]
          rw [Int32.add_zero] at H
          exact H
        have E : ∀ x y, ¬ (x = 72 ∧ 108 ≤ y) → ¬ (x = 71 ∧ 18 ≤ y ∧ y ≤ 20) → ¬ x = 78 → ¬ x = 80 → ¬ x = 81 → m3 x y = m x y := fun x y h1 h2 h3 h4 h5 => by
          rw [g2 x y (by omega), zup_n (by omega), F_32.2 x y h1 h2 h3, zup_n (by omega), F_14.2 x y (by omega)]
        rw [gN, if_neg hf]
        obtain ⟨m1, x1, x2, x3, x4, x5⟩ := ih (i + 1) _ d r h' m3 (by omega) ⟨hP.1, fun j hj => (E _ _ (by omega) (by omega) (by omega) (by omega) (by omega)).trans (hP.2 j hj)⟩ ((E 71 2 (by omega) (by omega) (by omega) (by omega) (by omega)).trans hc) (zMk_f hM (fun b => E 73 b (by omega) (by omega) (by omega) (by omega) (by omega))) (rS_f hS (E 71 23 (by omega) (by omega) (by omega) (by omega) (by omega)) (fun b => E 79 b (by omega) (by omega) (by omega) (by omega) (by omega))) H
        refine ⟨m1, x1, x2, fun v' h1 h2 => ?_, fun x y h1 h2 h3 h4 h5 => (x4 x y h1 h2 h3 h4 h5).trans (E x y h1 h2 h3 h4 h5), fun v' h1 => ?_⟩
        · by_cases e : v' = i
          · subst e
            obtain ⟨y1, y2⟩ := x5 v' (by omega)
            refine ⟨?_, fun k hk => ?_⟩
            · rw [y1, g2 _ _ (by omega), zup_s]
              rfl
            · rw [y2 k hk, g1 k (by omega) hk, zup_n (by omega)]
              exact F_32.1.2.2.2.2 k hk
          · exact x3 v' (by omega) h2
        · obtain ⟨y1, y2⟩ := x5 v' (by omega)
          refine ⟨?_, fun k hk => ?_⟩
          · rw [y1, g2 _ _ (by omega), zup_n (by omega), F_32.2 _ _ (by omega) (by omega) (by omega), zup_n (by omega), F_14.2 _ _ (by omega)]
          · rw [y2 k hk, g2 _ _ (by omega), zup_n (by omega), F_32.2 _ _ (by omega) (by omega) (by omega), zup_n (by omega), F_14.2 _ _ (by omega)]
      · skip
        replace H := i_icst (x := 1) (q := 56) H I_X8_fitsOf_55 (by decide) rfl
        replace H := i_goto (q := 60) H I_X8_fitsOf_56 (by decide)
        replace H := i_iadd (q := 61) H I_X8_fitsOf_60 rfl
        replace H := i_isn (q := 62) H I_X8_fitsOf_61 rfl rfl
        replace H := i_icst (x := 0) (q := 63) H I_X8_fitsOf_62 (by decide) rfl
        replace H := i_is (q := 65) H I_X8_fitsOf_63 rfl rfl
        have e44 : i = i_44 := zofn ei_44 (by omega) (by omega)
        subst e44
        have e51 : i = i_51 := zofn ei_51 (by omega) (by omega)
        subst e51
        rw [z_narb] at c_52 H
        rw [zup_s] at c_52
        have hf :  gCt c g sa sw s p i = true := zif1 c_52
        obtain ⟨m3, g1, g2, H⟩ := fi_loop (v := i) (by omega) 8 0 d r h' _ (by omega) H
        replace H := i_inc (q := 100) H I_X8_fitsOf_97 rfl rfl rfl
        replace H := i_goto (q := 4) H I_X8_fitsOf_100 (by decide)
        replace H : zE none d zm_X8_fitsOf 4 [.ref 71, .int (Int32.ofNat p), .int (n + 1), .int (Int32.ofNat (i + 1)), .null] [] m3 r h' := by
          rw [← zofn_s]
          exact H
        have E : ∀ x y, ¬ (x = 72 ∧ 108 ≤ y) → ¬ (x = 71 ∧ 18 ≤ y ∧ y ≤ 20) → ¬ x = 78 → ¬ x = 80 → ¬ x = 81 → m3 x y = m x y := fun x y h1 h2 h3 h4 h5 => by
          rw [g2 x y (by omega), zup_n (by omega), F_32.2 x y h1 h2 h3, zup_n (by omega), F_14.2 x y (by omega)]
        rw [gN, if_pos hf]
        obtain ⟨m1, x1, x2, x3, x4, x5⟩ := ih (i + 1) _ d r h' m3 (by omega) ⟨hP.1, fun j hj => (E _ _ (by omega) (by omega) (by omega) (by omega) (by omega)).trans (hP.2 j hj)⟩ ((E 71 2 (by omega) (by omega) (by omega) (by omega) (by omega)).trans hc) (zMk_f hM (fun b => E 73 b (by omega) (by omega) (by omega) (by omega) (by omega))) (rS_f hS (E 71 23 (by omega) (by omega) (by omega) (by omega) (by omega)) (fun b => E 79 b (by omega) (by omega) (by omega) (by omega) (by omega))) H
        refine ⟨m1, x1, x2, fun v' h1 h2 => ?_, fun x y h1 h2 h3 h4 h5 => (x4 x y h1 h2 h3 h4 h5).trans (E x y h1 h2 h3 h4 h5), fun v' h1 => ?_⟩
        · by_cases e : v' = i
          · subst e
            obtain ⟨y1, y2⟩ := x5 v' (by omega)
            refine ⟨?_, fun k hk => ?_⟩
            · rw [y1, g2 _ _ (by omega), zup_s]
              rfl
            · rw [y2 k hk, g1 k (by omega) hk, zup_n (by omega)]
              exact F_32.1.2.2.2.2 k hk
          · exact x3 v' (by omega) h2
        · obtain ⟨y1, y2⟩ := x5 v' (by omega)
          refine ⟨?_, fun k hk => ?_⟩
          · rw [y1, g2 _ _ (by omega), zup_n (by omega), F_32.2 _ _ (by omega) (by omega) (by omega), zup_n (by omega), F_14.2 _ _ (by omega)]
          · rw [y2 k hk, g2 _ _ (by omega), zup_n (by omega), F_32.2 _ _ (by omega) (by omega) (by omega), zup_n (by omega), F_14.2 _ _ (by omega)]
theorem t_X8_fitsOf {d : Nat} {m : zM} {r : Option Value} {h' : zHp} {s p : Nat} {sa sw : Nat → Int32} {c a : Nat} {g : Nat → Int32} (hP : PG m 0 g) (hg : gok g c) (hpl : gpl g) (ha : g 26 = Int32.ofNat a) (ha8 : a ≤ 8) (hc : m 71 2 = Int32.ofNat c) (hM : zMk m) (hS : rS m s sa sw) (hp : p < c) (H : zE none d zm_X8_fitsOf 0 [.ref 71, .int (Int32.ofNat p), .null, .null, .null] [] m r h') : ∃ m1, r = some (.int (gN (gCt c g sa sw s p) 21 0 0)) ∧ h' = zhp m1 ∧ (∀ v, v < 21 → m1 81 v = (if gCt c g sa sw s p v = true then 1 else 0) ∧ ∀ k, k < 8 → m1 80 (8 * v + k) = (gCv c g p v).2.2.2.2 k) ∧ zfF m m1 := by
  replace H := i_icst (x := 0) (q := 1) H I_X8_fitsOf_0 (by decide) rfl
  replace H := i_isn (q := 2) H I_X8_fitsOf_1 rfl rfl
  replace H := i_icst (x := 0) (q := 3) H I_X8_fitsOf_2 (by decide) rfl
  replace H := i_isn (q := 4) H I_X8_fitsOf_3 rfl rfl
  obtain ⟨m1, x1, x2, x3, x4, _⟩ := fo_loop hg hpl ha ha8 hp 21 0 0 d r h' m rfl hP hc hM hS H
  exact ⟨m1, x1, x2, fun v hv => x3 v (by omega) hv, x4⟩
theorem co_8 {m : zM} {f : Nat → Bool} {x w n : Int32} (hI : ∀ v, v < 21 → m 81 v = (if f v = true then 1 else 0)) : ∀ (j i : Nat) (l u : Int32) (d : Nat) (r : Option Value) (h' : zHp), i + j = 21 → zE none d zm_X8_counts 39 [.ref 71, .int x, .int w, .int n, .int l, .int u, .int (Int32.ofNat i)] [] m r h' → r = some (.int (gCo w n (gLs f j i l) (gMs f j i u))) := by
  intro j
  induction j with
  | zero =>
    intro i l u d r h' hj H
    replace H := i_il (q := 41) H I_X8_counts_39 rfl rfl
    replace H := i_bip (x := 20) (q := 43) H I_X8_counts_41 (by decide) rfl
    have W := i_ic_gt (t := 97) (q := 46) H I_X8_counts_43 (by decide) rfl
    clear H
    rcases W with ⟨c_43, H⟩ | ⟨c_43, H⟩
    · skip
      replace H := i_iln (q := 98) H I_X8_counts_97 rfl rfl
      have W := i_if_ne (t := 105) (q := 101) H I_X8_counts_98 (by decide) rfl
      clear H
      rcases W with ⟨c_98, H⟩ | ⟨c_98, H⟩
      · skip
        replace H := i_iln (q := 106) H I_X8_counts_105 rfl rfl
        replace H := i_icst (x := 1) (q := 107) H I_X8_counts_106 (by decide) rfl
        have W := i_ic_ne (t := 115) (q := 110) H I_X8_counts_107 (by decide) rfl
        clear H
        rcases W with ⟨c_107, H⟩ | ⟨c_107, H⟩
        · skip
          replace H := i_il (q := 117) H I_X8_counts_115 rfl rfl
          obtain ⟨hr, hh⟩ := i_ir H I_X8_counts_117
          exact hr.trans (by rw [gCo, if_neg c_98, if_neg c_107]; rfl)
        · skip
          replace H := i_il (q := 112) H I_X8_counts_110 rfl rfl
          replace H := i_goto (q := 117) H I_X8_counts_112 (by decide)
          obtain ⟨hr, hh⟩ := i_ir H I_X8_counts_117
          exact hr.trans (by rw [gCo, if_neg c_98, if_pos c_107]; rfl)
      · skip
        replace H := i_iln (q := 102) H I_X8_counts_101 rfl rfl
        replace H := i_goto (q := 117) H I_X8_counts_102 (by decide)
        obtain ⟨hr, hh⟩ := i_ir H I_X8_counts_117
        exact hr.trans (by rw [gCo, if_pos c_98])
    · exfalso
      exact c_43 ((zofn_lt (i := 20) (by decide) (by omega)).mpr (by omega))
  | succ j ih =>
    intro i l u d r h' hj H
    replace H := i_il (q := 41) H I_X8_counts_39 rfl rfl
    replace H := i_bip (x := 20) (q := 43) H I_X8_counts_41 (by decide) rfl
    have W := i_ic_gt (t := 97) (q := 46) H I_X8_counts_43 (by decide) rfl
    clear H
    rcases W with ⟨c_43, H⟩ | ⟨c_43, H⟩
    · exfalso
      exact absurd ((zofn_lt (i := 20) (by decide) (by omega)).mp c_43) (by omega)
    · skip
      replace H := i_aln (q := 47) H I_X8_counts_46 rfl rfl
      replace H := i_gfr (q := 50) H I_X8_counts_47 G_8_37 cn_X8_counts LY_71 rfl rfl
      replace H := i_il (q := 52) H I_X8_counts_50 rfl rfl
      have W := i_ba (q := 53) H I_X8_counts_52 LY_81 rfl
      clear H
      obtain ⟨i_52, bi_52, ei_52, H⟩ := W
      have W := i_if_eq (t := 68) (q := 56) H I_X8_counts_53 (by decide) rfl
      clear H
      rcases W with ⟨c_53, H⟩ | ⟨c_53, H⟩
      · skip
        replace H := i_il (q := 70) H I_X8_counts_68 rfl rfl
        replace H := i_is (q := 72) H I_X8_counts_70 rfl rfl
        replace H := i_aln (q := 73) H I_X8_counts_72 rfl rfl
        replace H := i_gfr (q := 76) H I_X8_counts_73 G_8_37 cn_X8_counts LY_71 rfl rfl
        replace H := i_il (q := 78) H I_X8_counts_76 rfl rfl
        have W := i_ba (q := 79) H I_X8_counts_78 LY_81 rfl
        clear H
        obtain ⟨i_78, bi_78, ei_78, H⟩ := W
        have W := i_if_eq (t := 87) (q := 82) H I_X8_counts_79 (by decide) rfl
        clear H
        rcases W with ⟨c_79, H⟩ | ⟨c_79, H⟩
        · skip
          replace H := i_il (q := 89) H I_X8_counts_87 rfl rfl
          replace H := i_is (q := 91) H I_X8_counts_89 rfl rfl
          replace H := i_inc (q := 94) H I_X8_counts_91 rfl rfl rfl
          replace H := i_goto (q := 39) H I_X8_counts_94 (by decide)
          have e52 : i = i_52 := zofn ei_52 (by omega) (by omega)
          subst e52
          rw [hI i (by omega)] at c_53
          have e78 : i = i_78 := zofn ei_78 (by omega) (by omega)
          subst e78
          rw [hI i (by omega)] at c_79
          have hf : ¬ f i = true := zif0 c_53
          replace H : zE none d zm_X8_counts 39 [.ref 71, .int x, .int w, .int n, .int l, .int u, .int (Int32.ofNat (i + 1))] [] m r h' := by
            rw [← zofn_s]
            exact H
          rw [gLs, gMs, if_neg (fun q => hf q.1), if_neg hf]
          exact ih (i + 1) l u d r h' (by omega) H
        · skip
          replace H := i_il (q := 84) H I_X8_counts_82 rfl rfl
          replace H := i_goto (q := 89) H I_X8_counts_84 (by decide)
          replace H := i_is (q := 91) H I_X8_counts_89 rfl rfl
          replace H := i_inc (q := 94) H I_X8_counts_91 rfl rfl rfl
          replace H := i_goto (q := 39) H I_X8_counts_94 (by decide)
          have e52 : i = i_52 := zofn ei_52 (by omega) (by omega)
          subst e52
          rw [hI i (by omega)] at c_53
          have e78 : i = i_78 := zofn ei_78 (by omega) (by omega)
          subst e78
          rw [hI i (by omega)] at c_79
          exact absurd c_53 c_79
      · skip
        replace H := i_il (q := 58) H I_X8_counts_56 rfl rfl
        replace H := i_bip (x := (-4)) (q := 60) H I_X8_counts_58 (by decide) rfl
        have W := i_ic_ne (t := 68) (q := 63) H I_X8_counts_60 (by decide) rfl
        clear H
        rcases W with ⟨c_60, H⟩ | ⟨c_60, H⟩
        · skip
          replace H := i_il (q := 70) H I_X8_counts_68 rfl rfl
          replace H := i_is (q := 72) H I_X8_counts_70 rfl rfl
          replace H := i_aln (q := 73) H I_X8_counts_72 rfl rfl
          replace H := i_gfr (q := 76) H I_X8_counts_73 G_8_37 cn_X8_counts LY_71 rfl rfl
          replace H := i_il (q := 78) H I_X8_counts_76 rfl rfl
          have W := i_ba (q := 79) H I_X8_counts_78 LY_81 rfl
          clear H
          obtain ⟨i_78, bi_78, ei_78, H⟩ := W
          have W := i_if_eq (t := 87) (q := 82) H I_X8_counts_79 (by decide) rfl
          clear H
          rcases W with ⟨c_79, H⟩ | ⟨c_79, H⟩
          · skip
            replace H := i_il (q := 89) H I_X8_counts_87 rfl rfl
            replace H := i_is (q := 91) H I_X8_counts_89 rfl rfl
            replace H := i_inc (q := 94) H I_X8_counts_91 rfl rfl rfl
            replace H := i_goto (q := 39) H I_X8_counts_94 (by decide)
            have e52 : i = i_52 := zofn ei_52 (by omega) (by omega)
            subst e52
            rw [hI i (by omega)] at c_53
            have e78 : i = i_78 := zofn ei_78 (by omega) (by omega)
            subst e78
            rw [hI i (by omega)] at c_79
            exact absurd c_79 c_53
          · skip
            replace H := i_il (q := 84) H I_X8_counts_82 rfl rfl
            replace H := i_goto (q := 89) H I_X8_counts_84 (by decide)
            replace H := i_is (q := 91) H I_X8_counts_89 rfl rfl
            replace H := i_inc (q := 94) H I_X8_counts_91 rfl rfl rfl
            replace H := i_goto (q := 39) H I_X8_counts_94 (by decide)
            have e52 : i = i_52 := zofn ei_52 (by omega) (by omega)
            subst e52
            rw [hI i (by omega)] at c_53
            have e78 : i = i_78 := zofn ei_78 (by omega) (by omega)
            subst e78
            rw [hI i (by omega)] at c_79
            have hf :  f i = true := zif1 c_53
            replace H : zE none d zm_X8_counts 39 [.ref 71, .int x, .int w, .int n, .int l, .int (Int32.ofNat i), .int (Int32.ofNat (i + 1))] [] m r h' := by
              rw [← zofn_s]
              exact H
            rw [gLs, gMs, if_neg (fun q => c_60 q.2), if_pos hf]
            exact ih (i + 1) l (Int32.ofNat i) d r h' (by omega) H
        · skip
          replace H := i_il (q := 65) H I_X8_counts_63 rfl rfl
          replace H := i_goto (q := 70) H I_X8_counts_65 (by decide)
          replace H := i_is (q := 72) H I_X8_counts_70 rfl rfl
          replace H := i_aln (q := 73) H I_X8_counts_72 rfl rfl
          replace H := i_gfr (q := 76) H I_X8_counts_73 G_8_37 cn_X8_counts LY_71 rfl rfl
          replace H := i_il (q := 78) H I_X8_counts_76 rfl rfl
          have W := i_ba (q := 79) H I_X8_counts_78 LY_81 rfl
          clear H
          obtain ⟨i_78, bi_78, ei_78, H⟩ := W
          have W := i_if_eq (t := 87) (q := 82) H I_X8_counts_79 (by decide) rfl
          clear H
          rcases W with ⟨c_79, H⟩ | ⟨c_79, H⟩
          · skip
            replace H := i_il (q := 89) H I_X8_counts_87 rfl rfl
            replace H := i_is (q := 91) H I_X8_counts_89 rfl rfl
            replace H := i_inc (q := 94) H I_X8_counts_91 rfl rfl rfl
            replace H := i_goto (q := 39) H I_X8_counts_94 (by decide)
            have e52 : i = i_52 := zofn ei_52 (by omega) (by omega)
            subst e52
            rw [hI i (by omega)] at c_53
            have e78 : i = i_78 := zofn ei_78 (by omega) (by omega)
            subst e78
            rw [hI i (by omega)] at c_79
            exact absurd c_79 c_53
          · skip
            replace H := i_il (q := 84) H I_X8_counts_82 rfl rfl
            replace H := i_goto (q := 89) H I_X8_counts_84 (by decide)
            replace H := i_is (q := 91) H I_X8_counts_89 rfl rfl
            replace H := i_inc (q := 94) H I_X8_counts_91 rfl rfl rfl
            replace H := i_goto (q := 39) H I_X8_counts_94 (by decide)
            have e52 : i = i_52 := zofn ei_52 (by omega) (by omega)
            subst e52
            rw [hI i (by omega)] at c_53
            have e78 : i = i_78 := zofn ei_78 (by omega) (by omega)
            subst e78
            rw [hI i (by omega)] at c_79
            have hf :  f i = true := zif1 c_53
            replace H : zE none d zm_X8_counts 39 [.ref 71, .int x, .int w, .int n, .int (Int32.ofNat i), .int (Int32.ofNat i), .int (Int32.ofNat (i + 1))] [] m r h' := by
              rw [← zofn_s]
              exact H
            rw [gLs, gMs, if_pos ⟨hf, c_60⟩, if_pos hf]
            exact ih (i + 1) (Int32.ofNat i) (Int32.ofNat i) d r h' (by omega) H
theorem t_X8_counts {d : Nat} {m : zM} {r : Option Value} {h' : zHp} {s p : Nat} {w : Int32} {sa sw : Nat → Int32} {c a : Nat} {g : Nat → Int32} (hP : PG m 0 g) (hg : gok g c) (hpl : gpl g) (ha : g 26 = Int32.ofNat a) (ha8 : a ≤ 8) (hc : m 71 2 = Int32.ofNat c) (hM : zMk m) (hS : rS m s sa sw) (hp : p < c) (H : zE none d zm_X8_counts 0 [.ref 71, .int (Int32.ofNat p), .int w, .null, .null, .null, .null] [] m r h') : r = some (.int (gCounts c g sa sw s p w)) := by
  have hc5 := hg.1
  replace H := i_aln (q := 1) H I_X8_counts_0 rfl rfl
  replace H := i_iln (q := 2) H I_X8_counts_1 rfl rfl
  have W := i_cv1 0 (q := 5) H I_X8_counts_2 K_8_151 Zm_127 rfl rfl
  clear H
  obtain ⟨r1, h1, Hc, K1, K2⟩ := W
  obtain ⟨e1, e2⟩ := t_X8_isOne hc hc5 Hc
  have H := K1 _ _ e1 e2
  clear e1 e2 Hc K1 K2
  have W := i_if_eq (t := 20) (q := 8) H I_X8_counts_5 (by decide) rfl
  clear H
  rcases W with ⟨c_5, H⟩ | ⟨c_5, H⟩
  · skip
    replace H := i_icst (x := (-1)) (q := 21) H I_X8_counts_20 (by decide) rfl
    obtain ⟨hr, hh⟩ := i_ir H I_X8_counts_21
    exfalso
    rw [hc] at c_5
    exact zif0 c_5 (zis_n hg.1 hp)
  · skip
    replace H := i_iln (q := 9) H I_X8_counts_8 rfl rfl
    replace H := i_i2l (q := 10) H I_X8_counts_9 rfl
    replace H := i_lcst (x := 0) (q := 11) H I_X8_counts_10 (by decide) rfl
    replace H := i_ldc2 (x := 2) (q := 14) H I_X8_counts_11 J_8_157 (by decide) rfl
    replace H := i_in (q := 17) H I_X8_counts_14 K_8_55 rfl
    have W := i_if_ne (t := 22) (q := 20) H I_X8_counts_17 (by decide) rfl
    clear H
    rcases W with ⟨c_17, H⟩ | ⟨c_17, H⟩
    · skip
      replace H := i_aln (q := 23) H I_X8_counts_22 rfl rfl
      replace H := i_iln (q := 24) H I_X8_counts_23 rfl rfl
      have W := i_cv1 3 (q := 27) H I_X8_counts_24 K_8_236 Zm_170 rfl rfl
      clear H
      obtain ⟨r1, h1, Hc, K1, K2⟩ := W
      obtain ⟨M_24, e1, e2, F_24⟩ := t_X8_fitsOf (p := p) hP hg hpl ha ha8 hc hM hS hp Hc
      have H := K1 _ _ e1 e2
      clear e1 e2 Hc K1 K2
      replace H := i_isn (q := 28) H I_X8_counts_27 rfl rfl
      replace H := i_bip (x := (-4)) (q := 30) H I_X8_counts_28 (by decide) rfl
      replace H := i_is (q := 32) H I_X8_counts_30 rfl rfl
      replace H := i_bip (x := (-4)) (q := 34) H I_X8_counts_32 (by decide) rfl
      replace H := i_is (q := 36) H I_X8_counts_34 rfl rfl
      replace H := i_icst (x := 0) (q := 37) H I_X8_counts_36 (by decide) rfl
      replace H := i_is (q := 39) H I_X8_counts_37 rfl rfl
      rw [zin_bt (lo := 0) (hi := 2) rfl rfl] at c_17
      rw [gCounts, if_pos (zif1 c_17)]
      exact co_8 (fun v hv => (F_24.1 v hv).1) 21 0 (-4) (-4) d r h' rfl H
    · skip
      replace H := i_icst (x := (-1)) (q := 21) H I_X8_counts_20 (by decide) rfl
      obtain ⟨hr, hh⟩ := i_ir H I_X8_counts_21
      rw [zin_bt (lo := 0) (hi := 2) rfl rfl] at c_17
      exact hr.trans (by rw [gCounts, if_neg (zif0 c_17)])
theorem t_X8_countsN {d : Nat} {m : zM} {r : Option Value} {h' : zHp} {c : Nat} {x w : Int32} (hc : m 71 2 = Int32.ofNat c) (hc5 : c ≤ 5) (hx : ¬ zIs x c) (H : zE none d zm_X8_counts 0 [.ref 71, .int x, .int w, .null, .null, .null, .null] [] m r h') : r = some (.int (-1)) := by
  replace H := i_aln (q := 1) H I_X8_counts_0 rfl rfl
  replace H := i_iln (q := 2) H I_X8_counts_1 rfl rfl
  have W := i_cv1 0 (q := 5) H I_X8_counts_2 K_8_151 Zm_127 rfl rfl
  clear H
  obtain ⟨r1, h1, Hc, K1, K2⟩ := W
  obtain ⟨e1, e2⟩ := t_X8_isOne hc hc5 Hc
  have H := K1 _ _ e1 e2
  clear e1 e2 Hc K1 K2
  have W := i_if_eq (t := 20) (q := 8) H I_X8_counts_5 (by decide) rfl
  clear H
  rcases W with ⟨c_5, H⟩ | ⟨c_5, H⟩
  · skip
    replace H := i_icst (x := (-1)) (q := 21) H I_X8_counts_20 (by decide) rfl
    obtain ⟨hr, hh⟩ := i_ir H I_X8_counts_21
    exact hr
  · skip
    rw [hc] at c_5
    exact absurd (zif1 c_5) hx
theorem pt_counts {m : zM} {r : Option Value} {h' : zHp} {x0 x1 : Int32} (ht : zTy m) (hR : RS m) (H : zEv none 19 zm_X7_counts (0, lv_args 0 [.ref 0, .int x0, .int x1], [], zhp m) r h') : ∃ m1 v, r = some (.int v) ∧ h' = zhp m1 ∧ zTy m1 ∧ ∀ r2 h2, zEv none 19 zm_X8_counts (0, lv_args 0 [.ref 71, .int x0, .int x1], [], zhp m1) r2 h2 → ∃ m2 v2, r2 = some (.int v2) ∧ h2 = zhp m2 ∧ zTy m2 ∧ RS m2 ∧ v = v2 := by
  obtain ⟨hR, hS⟩ := hR
  have hR0 := hR
  have hS0 := hS
  obtain ⟨s, s1, s2, s3, s4⟩ := hS
  obtain ⟨⟨_, hM, _, _, c, c1, ⟨hL, hb⟩, _⟩, _⟩ := hR
  have hg := gok_11 ht hL
  have hpl := gpl_0 ht
  obtain ⟨a, a6, a7, _⟩ := hL.2.2.2.2.2
  obtain ⟨m1, v, a1, a2, a3, a4⟩ := e_X7_counts ht H
  refine ⟨m1, v, a1, a2, a3, fun r2 h2 H2 => ?_⟩
  obtain ⟨m2, v2, b1, b2, b3, b4⟩ := e_X8_counts a3 H2
  refine ⟨m2, v2, b1, b2, b3, ⟨RF_f (RF_f hR0 a4 (by decide +kernel)) b4 (by decide +kernel), SV_f (SV_f hS0 a4 (by decide +kernel)) b4 (by decide +kernel)⟩, ?_⟩
  have hP1 : PG m1 0 (pgf m 0) := ⟨by omega, fun j hj => a4 72 (0 + j) (zpl_r LY_72 (by omega)) (ymd_c (by decide +kernel) _)⟩
  have hM1 : zMk m1 := ⟨(a4 73 0 ⟨_, LY_73, rfl⟩ (by decide +kernel)).trans hM.1, (a4 73 1 ⟨_, LY_73, rfl⟩ (by decide +kernel)).trans hM.2.1, (a4 73 2 ⟨_, LY_73, rfl⟩ (by decide +kernel)).trans hM.2.2.1, (a4 73 3 ⟨_, LY_73, rfl⟩ (by decide +kernel)).trans hM.2.2.2⟩
  have hcS : cS m s (m 41) (m 42) := ⟨s1, s2, fun _ _ => ⟨rfl, rfl⟩⟩
  have hrS : rS m1 s (m 41) (m 42) := ⟨s1, (a4 71 23 ⟨_, LY_71, rfl⟩ (by decide +kernel)).trans s3, fun k hk => ⟨(a4 79 (2 * k) (zpl_r LY_79 (by omega)) (ymd_c (by decide +kernel) _)).trans (s4 k hk).1.symm, (a4 79 (2 * k + 1) (zpl_r LY_79 (by omega)) (ymd_c (by decide +kernel) _)).trans (s4 k hk).2.symm⟩⟩
  have hc1 : m1 71 2 = Int32.ofNat c := (a4 71 2 ⟨_, LY_71, rfl⟩ (by decide +kernel)).trans c1
  by_cases hx : zIs x0 c
  · obtain ⟨p, p1, rfl⟩ := zlt_n rfl (by have := hL.2.1; omega) hx
    have k1 := t_X7_counts hL hg hcS p1 (zE_of 4 rfl H)
    have k2 := t_X8_counts hP1 hg hpl a7 a6 hc1 hM1 hrS p1 (zE_of 4 rfl H2)
    rw [a1] at k1
    rw [b1] at k2
    cases k1
    cases k2
    rfl
  · have k1 := t_X7_countsN hL.1 hx (zE_of 4 rfl H)
    have k2 := t_X8_countsN hc1 hL.2.1 hx (zE_of 4 rfl H2)
    rw [a1] at k1
    rw [b1] at k2
    cases k1
    cases k2
    rfl
end
