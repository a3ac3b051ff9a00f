/-! mean, luck -/
theorem It_X7_allOdds : zm_X7_allOdds.2.2.2.2.2 = zt_X7_allOdds := by
  unfold zm_X7_allOdds
  rfl
theorem It_X7_commonDivisor : zm_X7_commonDivisor.2.2.2.2.2 = zt_X7_commonDivisor := by
  unfold zm_X7_commonDivisor
  rfl
theorem It_X7_luck : zm_X7_luck.2.2.2.2.2 = zt_X7_luck := by
  unfold zm_X7_luck
  rfl
theorem It_X7_mean : zm_X7_mean.2.2.2.2.2 = zt_X7_mean := by
  unfold zm_X7_mean
  rfl
theorem It_X7_odds : zm_X7_odds.2.2.2.2.2 = zt_X7_odds := by
  unfold zm_X7_odds
  rfl
theorem It_X7_partOfFraction : zm_X7_partOfFraction.2.2.2.2.2 = zt_X7_partOfFraction := by
  unfold zm_X7_partOfFraction
  rfl
theorem It_X7_rehearseWithout : zm_X7_rehearseWithout.2.2.2.2.2 = zt_X7_rehearseWithout := by
  unfold zm_X7_rehearseWithout
  rfl
theorem It_X8_byAway : zm_X8_byAway.2.2.2.2.2 = zt_X8_byAway := by
  unfold zm_X8_byAway
  rfl
theorem It_X8_lowest : zm_X8_lowest.2.2.2.2.2 = zt_X8_lowest := by
  unfold zm_X8_lowest
  rfl
theorem It_X8_luck : zm_X8_luck.2.2.2.2.2 = zt_X8_luck := by
  unfold zm_X8_luck
  rfl
theorem It_X8_mean : zm_X8_mean.2.2.2.2.2 = zt_X8_mean := by
  unfold zm_X8_mean
  rfl
theorem I_X7_allOdds_0 : zin zm_X7_allOdds.2.2.2.2.2 0 = some (.lconst 1, 1) := by rw [It_X7_allOdds]; rfl
theorem I_X7_allOdds_1 : zin zm_X7_allOdds.2.2.2.2.2 1 = some (.lstore_n 1, 1) := by rw [It_X7_allOdds]; rfl
theorem I_X7_allOdds_2 : zin zm_X7_allOdds.2.2.2.2.2 2 = some (.iconst 0, 1) := by rw [It_X7_allOdds]; rfl
theorem I_X7_allOdds_3 : zin zm_X7_allOdds.2.2.2.2.2 3 = some (.istore_n 3, 1) := by rw [It_X7_allOdds]; rfl
theorem I_X7_allOdds_4 : zin zm_X7_allOdds.2.2.2.2.2 4 = some (.iload_n 3, 1) := by rw [It_X7_allOdds]; rfl
theorem I_X7_allOdds_5 : zin zm_X7_allOdds.2.2.2.2.2 5 = some (.aload_n 0, 1) := by rw [It_X7_allOdds]; rfl
theorem I_X7_allOdds_6 : zin zm_X7_allOdds.2.2.2.2.2 6 = some (.getfield 19, 3) := by rw [It_X7_allOdds]; rfl
theorem I_X7_allOdds_9 : zin zm_X7_allOdds.2.2.2.2.2 9 = some (.getfield 90, 3) := by rw [It_X7_allOdds]; rfl
theorem I_X7_allOdds_12 : zin zm_X7_allOdds.2.2.2.2.2 12 = some (.if_icmp .ge 15, 3) := by rw [It_X7_allOdds]; rfl
theorem I_X7_allOdds_15 : zin zm_X7_allOdds.2.2.2.2.2 15 = some (.lload_n 1, 1) := by rw [It_X7_allOdds]; rfl
theorem I_X7_allOdds_16 : zin zm_X7_allOdds.2.2.2.2.2 16 = some (.ldc2_w 234, 3) := by rw [It_X7_allOdds]; rfl
theorem I_X7_allOdds_19 : zin zm_X7_allOdds.2.2.2.2.2 19 = some (.lmul, 1) := by rw [It_X7_allOdds]; rfl
theorem I_X7_allOdds_20 : zin zm_X7_allOdds.2.2.2.2.2 20 = some (.lstore_n 1, 1) := by rw [It_X7_allOdds]; rfl
theorem I_X7_allOdds_21 : zin zm_X7_allOdds.2.2.2.2.2 21 = some (.iinc 3 1, 3) := by rw [It_X7_allOdds]; rfl
theorem I_X7_allOdds_24 : zin zm_X7_allOdds.2.2.2.2.2 24 = some (.goto (-20), 3) := by rw [It_X7_allOdds]; rfl
theorem I_X7_allOdds_27 : zin zm_X7_allOdds.2.2.2.2.2 27 = some (.lload_n 1, 1) := by rw [It_X7_allOdds]; rfl
theorem I_X7_allOdds_28 : zin zm_X7_allOdds.2.2.2.2.2 28 = some (.lreturn, 1) := by rw [It_X7_allOdds]; rfl
theorem I_X7_commonDivisor_0 : zin zm_X7_commonDivisor.2.2.2.2.2 0 = some (.lload_n 0, 1) := by rw [It_X7_commonDivisor]; rfl
theorem I_X7_commonDivisor_1 : zin zm_X7_commonDivisor.2.2.2.2.2 1 = some (.lstore 4, 2) := by rw [It_X7_commonDivisor]; rfl
theorem I_X7_commonDivisor_3 : zin zm_X7_commonDivisor.2.2.2.2.2 3 = some (.lload_n 2, 1) := by rw [It_X7_commonDivisor]; rfl
theorem I_X7_commonDivisor_4 : zin zm_X7_commonDivisor.2.2.2.2.2 4 = some (.lstore 6, 2) := by rw [It_X7_commonDivisor]; rfl
theorem I_X7_commonDivisor_6 : zin zm_X7_commonDivisor.2.2.2.2.2 6 = some (.iconst 0, 1) := by rw [It_X7_commonDivisor]; rfl
theorem I_X7_commonDivisor_7 : zin zm_X7_commonDivisor.2.2.2.2.2 7 = some (.istore 8, 2) := by rw [It_X7_commonDivisor]; rfl
theorem I_X7_commonDivisor_9 : zin zm_X7_commonDivisor.2.2.2.2.2 9 = some (.iload 8, 2) := by rw [It_X7_commonDivisor]; rfl
theorem I_X7_commonDivisor_11 : zin zm_X7_commonDivisor.2.2.2.2.2 11 = some (.bipush 100, 2) := by rw [It_X7_commonDivisor]; rfl
theorem I_X7_commonDivisor_13 : zin zm_X7_commonDivisor.2.2.2.2.2 13 = some (.if_icmp .ge 31, 3) := by rw [It_X7_commonDivisor]; rfl
theorem I_X7_commonDivisor_16 : zin zm_X7_commonDivisor.2.2.2.2.2 16 = some (.lload 6, 2) := by rw [It_X7_commonDivisor]; rfl
theorem I_X7_commonDivisor_18 : zin zm_X7_commonDivisor.2.2.2.2.2 18 = some (.lconst 0, 1) := by rw [It_X7_commonDivisor]; rfl
theorem I_X7_commonDivisor_19 : zin zm_X7_commonDivisor.2.2.2.2.2 19 = some (.lcmp, 1) := by rw [It_X7_commonDivisor]; rfl
theorem I_X7_commonDivisor_20 : zin zm_X7_commonDivisor.2.2.2.2.2 20 = some (.ifCond .eq 24, 3) := by rw [It_X7_commonDivisor]; rfl
theorem I_X7_commonDivisor_23 : zin zm_X7_commonDivisor.2.2.2.2.2 23 = some (.lload 4, 2) := by rw [It_X7_commonDivisor]; rfl
theorem I_X7_commonDivisor_25 : zin zm_X7_commonDivisor.2.2.2.2.2 25 = some (.lload 6, 2) := by rw [It_X7_commonDivisor]; rfl
theorem I_X7_commonDivisor_27 : zin zm_X7_commonDivisor.2.2.2.2.2 27 = some (.lrem, 1) := by rw [It_X7_commonDivisor]; rfl
theorem I_X7_commonDivisor_28 : zin zm_X7_commonDivisor.2.2.2.2.2 28 = some (.lstore 9, 2) := by rw [It_X7_commonDivisor]; rfl
theorem I_X7_commonDivisor_30 : zin zm_X7_commonDivisor.2.2.2.2.2 30 = some (.lload 6, 2) := by rw [It_X7_commonDivisor]; rfl
theorem I_X7_commonDivisor_32 : zin zm_X7_commonDivisor.2.2.2.2.2 32 = some (.lstore 4, 2) := by rw [It_X7_commonDivisor]; rfl
theorem I_X7_commonDivisor_34 : zin zm_X7_commonDivisor.2.2.2.2.2 34 = some (.lload 9, 2) := by rw [It_X7_commonDivisor]; rfl
theorem I_X7_commonDivisor_36 : zin zm_X7_commonDivisor.2.2.2.2.2 36 = some (.lstore 6, 2) := by rw [It_X7_commonDivisor]; rfl
theorem I_X7_commonDivisor_38 : zin zm_X7_commonDivisor.2.2.2.2.2 38 = some (.iinc 8 1, 3) := by rw [It_X7_commonDivisor]; rfl
theorem I_X7_commonDivisor_41 : zin zm_X7_commonDivisor.2.2.2.2.2 41 = some (.goto (-32), 3) := by rw [It_X7_commonDivisor]; rfl
theorem I_X7_commonDivisor_44 : zin zm_X7_commonDivisor.2.2.2.2.2 44 = some (.lload 4, 2) := by rw [It_X7_commonDivisor]; rfl
theorem I_X7_commonDivisor_46 : zin zm_X7_commonDivisor.2.2.2.2.2 46 = some (.lreturn, 1) := by rw [It_X7_commonDivisor]; rfl
theorem I_X7_luck_0 : zin zm_X7_luck.2.2.2.2.2 0 = some (.iload_n 1, 1) := by rw [It_X7_luck]; rfl
theorem I_X7_luck_1 : zin zm_X7_luck.2.2.2.2.2 1 = some (.ifCond .lt 29, 3) := by rw [It_X7_luck]; rfl
theorem I_X7_luck_4 : zin zm_X7_luck.2.2.2.2.2 4 = some (.iload_n 1, 1) := by rw [It_X7_luck]; rfl
theorem I_X7_luck_5 : zin zm_X7_luck.2.2.2.2.2 5 = some (.bipush 10, 2) := by rw [It_X7_luck]; rfl
theorem I_X7_luck_7 : zin zm_X7_luck.2.2.2.2.2 7 = some (.if_icmp .gt 23, 3) := by rw [It_X7_luck]; rfl
theorem I_X7_luck_10 : zin zm_X7_luck.2.2.2.2.2 10 = some (.aload_n 0, 1) := by rw [It_X7_luck]; rfl
theorem I_X7_luck_11 : zin zm_X7_luck.2.2.2.2.2 11 = some (.getfield 19, 3) := by rw [It_X7_luck]; rfl
theorem I_X7_luck_14 : zin zm_X7_luck.2.2.2.2.2 14 = some (.iload_n 2, 1) := by rw [It_X7_luck]; rfl
theorem I_X7_luck_15 : zin zm_X7_luck.2.2.2.2.2 15 = some (.invokevirtual 112, 3) := by rw [It_X7_luck]; rfl
theorem I_X7_luck_18 : zin zm_X7_luck.2.2.2.2.2 18 = some (.ifCond .eq 12, 3) := by rw [It_X7_luck]; rfl
theorem I_X7_luck_21 : zin zm_X7_luck.2.2.2.2.2 21 = some (.iload_n 3, 1) := by rw [It_X7_luck]; rfl
theorem I_X7_luck_22 : zin zm_X7_luck.2.2.2.2.2 22 = some (.ifCond .lt 8, 3) := by rw [It_X7_luck]; rfl
theorem I_X7_luck_25 : zin zm_X7_luck.2.2.2.2.2 25 = some (.iload_n 3, 1) := by rw [It_X7_luck]; rfl
theorem I_X7_luck_26 : zin zm_X7_luck.2.2.2.2.2 26 = some (.iconst 1, 1) := by rw [It_X7_luck]; rfl
theorem I_X7_luck_27 : zin zm_X7_luck.2.2.2.2.2 27 = some (.if_icmp .le 7, 3) := by rw [It_X7_luck]; rfl
theorem I_X7_luck_30 : zin zm_X7_luck.2.2.2.2.2 30 = some (.ldc2_w 217, 3) := by rw [It_X7_luck]; rfl
theorem I_X7_luck_33 : zin zm_X7_luck.2.2.2.2.2 33 = some (.lreturn, 1) := by rw [It_X7_luck]; rfl
theorem I_X7_luck_34 : zin zm_X7_luck.2.2.2.2.2 34 = some (.lconst 0, 1) := by rw [It_X7_luck]; rfl
theorem I_X7_luck_35 : zin zm_X7_luck.2.2.2.2.2 35 = some (.lstore 4, 2) := by rw [It_X7_luck]; rfl
theorem I_X7_luck_37 : zin zm_X7_luck.2.2.2.2.2 37 = some (.iconst 0, 1) := by rw [It_X7_luck]; rfl
theorem I_X7_luck_38 : zin zm_X7_luck.2.2.2.2.2 38 = some (.istore 6, 2) := by rw [It_X7_luck]; rfl
theorem I_X7_luck_40 : zin zm_X7_luck.2.2.2.2.2 40 = some (.iload 6, 2) := by rw [It_X7_luck]; rfl
theorem I_X7_luck_42 : zin zm_X7_luck.2.2.2.2.2 42 = some (.iconst 1, 1) := by rw [It_X7_luck]; rfl
theorem I_X7_luck_43 : zin zm_X7_luck.2.2.2.2.2 43 = some (.aload_n 0, 1) := by rw [It_X7_luck]; rfl
theorem I_X7_luck_44 : zin zm_X7_luck.2.2.2.2.2 44 = some (.getfield 19, 3) := by rw [It_X7_luck]; rfl
theorem I_X7_luck_47 : zin zm_X7_luck.2.2.2.2.2 47 = some (.getfield 90, 3) := by rw [It_X7_luck]; rfl
theorem I_X7_luck_50 : zin zm_X7_luck.2.2.2.2.2 50 = some (.ishl, 1) := by rw [It_X7_luck]; rfl
theorem I_X7_luck_51 : zin zm_X7_luck.2.2.2.2.2 51 = some (.if_icmp .ge 42, 3) := by rw [It_X7_luck]; rfl
theorem I_X7_luck_54 : zin zm_X7_luck.2.2.2.2.2 54 = some (.aload_n 0, 1) := by rw [It_X7_luck]; rfl
theorem I_X7_luck_55 : zin zm_X7_luck.2.2.2.2.2 55 = some (.iload 6, 2) := by rw [It_X7_luck]; rfl
theorem I_X7_luck_57 : zin zm_X7_luck.2.2.2.2.2 57 = some (.invokevirtual 223, 3) := by rw [It_X7_luck]; rfl
theorem I_X7_luck_60 : zin zm_X7_luck.2.2.2.2.2 60 = some (.pop, 1) := by rw [It_X7_luck]; rfl
theorem I_X7_luck_61 : zin zm_X7_luck.2.2.2.2.2 61 = some (.aload_n 0, 1) := by rw [It_X7_luck]; rfl
theorem I_X7_luck_62 : zin zm_X7_luck.2.2.2.2.2 62 = some (.getfield 26, 3) := by rw [It_X7_luck]; rfl
theorem I_X7_luck_65 : zin zm_X7_luck.2.2.2.2.2 65 = some (.getfield 167, 3) := by rw [It_X7_luck]; rfl
theorem I_X7_luck_68 : zin zm_X7_luck.2.2.2.2.2 68 = some (.iload_n 2, 1) := by rw [It_X7_luck]; rfl
theorem I_X7_luck_69 : zin zm_X7_luck.2.2.2.2.2 69 = some (.ishr, 1) := by rw [It_X7_luck]; rfl
theorem I_X7_luck_70 : zin zm_X7_luck.2.2.2.2.2 70 = some (.iconst 1, 1) := by rw [It_X7_luck]; rfl
theorem I_X7_luck_71 : zin zm_X7_luck.2.2.2.2.2 71 = some (.iand, 1) := by rw [It_X7_luck]; rfl
theorem I_X7_luck_72 : zin zm_X7_luck.2.2.2.2.2 72 = some (.ifCond .eq 15, 3) := by rw [It_X7_luck]; rfl
theorem I_X7_luck_75 : zin zm_X7_luck.2.2.2.2.2 75 = some (.lload 4, 2) := by rw [It_X7_luck]; rfl
theorem I_X7_luck_77 : zin zm_X7_luck.2.2.2.2.2 77 = some (.aload_n 0, 1) := by rw [It_X7_luck]; rfl
theorem I_X7_luck_78 : zin zm_X7_luck.2.2.2.2.2 78 = some (.iload 6, 2) := by rw [It_X7_luck]; rfl
theorem I_X7_luck_80 : zin zm_X7_luck.2.2.2.2.2 80 = some (.iload_n 1, 1) := by rw [It_X7_luck]; rfl
theorem I_X7_luck_81 : zin zm_X7_luck.2.2.2.2.2 81 = some (.invokevirtual 219, 3) := by rw [It_X7_luck]; rfl
theorem I_X7_luck_84 : zin zm_X7_luck.2.2.2.2.2 84 = some (.ladd, 1) := by rw [It_X7_luck]; rfl
theorem I_X7_luck_85 : zin zm_X7_luck.2.2.2.2.2 85 = some (.lstore 4, 2) := by rw [It_X7_luck]; rfl
theorem I_X7_luck_87 : zin zm_X7_luck.2.2.2.2.2 87 = some (.iinc 6 1, 3) := by rw [It_X7_luck]; rfl
theorem I_X7_luck_90 : zin zm_X7_luck.2.2.2.2.2 90 = some (.goto (-50), 3) := by rw [It_X7_luck]; rfl
theorem I_X7_luck_93 : zin zm_X7_luck.2.2.2.2.2 93 = some (.lload 4, 2) := by rw [It_X7_luck]; rfl
theorem I_X7_luck_95 : zin zm_X7_luck.2.2.2.2.2 95 = some (.aload_n 0, 1) := by rw [It_X7_luck]; rfl
theorem I_X7_luck_96 : zin zm_X7_luck.2.2.2.2.2 96 = some (.invokevirtual 226, 3) := by rw [It_X7_luck]; rfl
theorem I_X7_luck_99 : zin zm_X7_luck.2.2.2.2.2 99 = some (.iload_n 3, 1) := by rw [It_X7_luck]; rfl
theorem I_X7_luck_100 : zin zm_X7_luck.2.2.2.2.2 100 = some (.invokestatic 230, 3) := by rw [It_X7_luck]; rfl
theorem I_X7_luck_103 : zin zm_X7_luck.2.2.2.2.2 103 = some (.lreturn, 1) := by rw [It_X7_luck]; rfl
theorem I_X7_mean_0 : zin zm_X7_mean.2.2.2.2.2 0 = some (.iload_n 1, 1) := by rw [It_X7_mean]; rfl
theorem I_X7_mean_1 : zin zm_X7_mean.2.2.2.2.2 1 = some (.ifCond .lt 18, 3) := by rw [It_X7_mean]; rfl
theorem I_X7_mean_4 : zin zm_X7_mean.2.2.2.2.2 4 = some (.iload_n 1, 1) := by rw [It_X7_mean]; rfl
theorem I_X7_mean_5 : zin zm_X7_mean.2.2.2.2.2 5 = some (.bipush 10, 2) := by rw [It_X7_mean]; rfl
theorem I_X7_mean_7 : zin zm_X7_mean.2.2.2.2.2 7 = some (.if_icmp .gt 12, 3) := by rw [It_X7_mean]; rfl
theorem I_X7_mean_10 : zin zm_X7_mean.2.2.2.2.2 10 = some (.iload_n 2, 1) := by rw [It_X7_mean]; rfl
theorem I_X7_mean_11 : zin zm_X7_mean.2.2.2.2.2 11 = some (.ifCond .lt 8, 3) := by rw [It_X7_mean]; rfl
theorem I_X7_mean_14 : zin zm_X7_mean.2.2.2.2.2 14 = some (.iload_n 2, 1) := by rw [It_X7_mean]; rfl
theorem I_X7_mean_15 : zin zm_X7_mean.2.2.2.2.2 15 = some (.iconst 1, 1) := by rw [It_X7_mean]; rfl
theorem I_X7_mean_16 : zin zm_X7_mean.2.2.2.2.2 16 = some (.if_icmp .le 7, 3) := by rw [It_X7_mean]; rfl
theorem I_X7_mean_19 : zin zm_X7_mean.2.2.2.2.2 19 = some (.ldc2_w 217, 3) := by rw [It_X7_mean]; rfl
theorem I_X7_mean_22 : zin zm_X7_mean.2.2.2.2.2 22 = some (.lreturn, 1) := by rw [It_X7_mean]; rfl
theorem I_X7_mean_23 : zin zm_X7_mean.2.2.2.2.2 23 = some (.lconst 0, 1) := by rw [It_X7_mean]; rfl
theorem I_X7_mean_24 : zin zm_X7_mean.2.2.2.2.2 24 = some (.lstore_n 3, 1) := by rw [It_X7_mean]; rfl
theorem I_X7_mean_25 : zin zm_X7_mean.2.2.2.2.2 25 = some (.iconst 0, 1) := by rw [It_X7_mean]; rfl
theorem I_X7_mean_26 : zin zm_X7_mean.2.2.2.2.2 26 = some (.istore 5, 2) := by rw [It_X7_mean]; rfl
theorem I_X7_mean_28 : zin zm_X7_mean.2.2.2.2.2 28 = some (.iload 5, 2) := by rw [It_X7_mean]; rfl
theorem I_X7_mean_30 : zin zm_X7_mean.2.2.2.2.2 30 = some (.iconst 1, 1) := by rw [It_X7_mean]; rfl
theorem I_X7_mean_31 : zin zm_X7_mean.2.2.2.2.2 31 = some (.aload_n 0, 1) := by rw [It_X7_mean]; rfl
theorem I_X7_mean_32 : zin zm_X7_mean.2.2.2.2.2 32 = some (.getfield 19, 3) := by rw [It_X7_mean]; rfl
theorem I_X7_mean_35 : zin zm_X7_mean.2.2.2.2.2 35 = some (.getfield 90, 3) := by rw [It_X7_mean]; rfl
theorem I_X7_mean_38 : zin zm_X7_mean.2.2.2.2.2 38 = some (.ishl, 1) := by rw [It_X7_mean]; rfl
theorem I_X7_mean_39 : zin zm_X7_mean.2.2.2.2.2 39 = some (.if_icmp .ge 27, 3) := by rw [It_X7_mean]; rfl
theorem I_X7_mean_42 : zin zm_X7_mean.2.2.2.2.2 42 = some (.lload_n 3, 1) := by rw [It_X7_mean]; rfl
theorem I_X7_mean_43 : zin zm_X7_mean.2.2.2.2.2 43 = some (.aload_n 0, 1) := by rw [It_X7_mean]; rfl
theorem I_X7_mean_44 : zin zm_X7_mean.2.2.2.2.2 44 = some (.iload 5, 2) := by rw [It_X7_mean]; rfl
theorem I_X7_mean_46 : zin zm_X7_mean.2.2.2.2.2 46 = some (.iload_n 1, 1) := by rw [It_X7_mean]; rfl
theorem I_X7_mean_47 : zin zm_X7_mean.2.2.2.2.2 47 = some (.invokevirtual 219, 3) := by rw [It_X7_mean]; rfl
theorem I_X7_mean_50 : zin zm_X7_mean.2.2.2.2.2 50 = some (.aload_n 0, 1) := by rw [It_X7_mean]; rfl
theorem I_X7_mean_51 : zin zm_X7_mean.2.2.2.2.2 51 = some (.iload 5, 2) := by rw [It_X7_mean]; rfl
theorem I_X7_mean_53 : zin zm_X7_mean.2.2.2.2.2 53 = some (.invokevirtual 223, 3) := by rw [It_X7_mean]; rfl
theorem I_X7_mean_56 : zin zm_X7_mean.2.2.2.2.2 56 = some (.i2l, 1) := by rw [It_X7_mean]; rfl
theorem I_X7_mean_57 : zin zm_X7_mean.2.2.2.2.2 57 = some (.lmul, 1) := by rw [It_X7_mean]; rfl
theorem I_X7_mean_58 : zin zm_X7_mean.2.2.2.2.2 58 = some (.ladd, 1) := by rw [It_X7_mean]; rfl
theorem I_X7_mean_59 : zin zm_X7_mean.2.2.2.2.2 59 = some (.lstore_n 3, 1) := by rw [It_X7_mean]; rfl
theorem I_X7_mean_60 : zin zm_X7_mean.2.2.2.2.2 60 = some (.iinc 5 1, 3) := by rw [It_X7_mean]; rfl
theorem I_X7_mean_63 : zin zm_X7_mean.2.2.2.2.2 63 = some (.goto (-35), 3) := by rw [It_X7_mean]; rfl
theorem I_X7_mean_66 : zin zm_X7_mean.2.2.2.2.2 66 = some (.lload_n 3, 1) := by rw [It_X7_mean]; rfl
theorem I_X7_mean_67 : zin zm_X7_mean.2.2.2.2.2 67 = some (.aload_n 0, 1) := by rw [It_X7_mean]; rfl
theorem I_X7_mean_68 : zin zm_X7_mean.2.2.2.2.2 68 = some (.invokevirtual 226, 3) := by rw [It_X7_mean]; rfl
theorem I_X7_mean_71 : zin zm_X7_mean.2.2.2.2.2 71 = some (.iload_n 2, 1) := by rw [It_X7_mean]; rfl
theorem I_X7_mean_72 : zin zm_X7_mean.2.2.2.2.2 72 = some (.invokestatic 230, 3) := by rw [It_X7_mean]; rfl
theorem I_X7_mean_75 : zin zm_X7_mean.2.2.2.2.2 75 = some (.lreturn, 1) := by rw [It_X7_mean]; rfl
theorem I_X7_odds_0 : zin zm_X7_odds.2.2.2.2.2 0 = some (.lconst 1, 1) := by rw [It_X7_odds]; rfl
theorem I_X7_odds_1 : zin zm_X7_odds.2.2.2.2.2 1 = some (.lstore_n 3, 1) := by rw [It_X7_odds]; rfl
theorem I_X7_odds_2 : zin zm_X7_odds.2.2.2.2.2 2 = some (.iconst 0, 1) := by rw [It_X7_odds]; rfl
theorem I_X7_odds_3 : zin zm_X7_odds.2.2.2.2.2 3 = some (.istore 5, 2) := by rw [It_X7_odds]; rfl
theorem I_X7_odds_5 : zin zm_X7_odds.2.2.2.2.2 5 = some (.iload 5, 2) := by rw [It_X7_odds]; rfl
theorem I_X7_odds_7 : zin zm_X7_odds.2.2.2.2.2 7 = some (.aload_n 0, 1) := by rw [It_X7_odds]; rfl
theorem I_X7_odds_8 : zin zm_X7_odds.2.2.2.2.2 8 = some (.getfield 19, 3) := by rw [It_X7_odds]; rfl
theorem I_X7_odds_11 : zin zm_X7_odds.2.2.2.2.2 11 = some (.getfield 90, 3) := by rw [It_X7_odds]; rfl
theorem I_X7_odds_14 : zin zm_X7_odds.2.2.2.2.2 14 = some (.if_icmp .ge 31, 3) := by rw [It_X7_odds]; rfl
theorem I_X7_odds_17 : zin zm_X7_odds.2.2.2.2.2 17 = some (.lload_n 3, 1) := by rw [It_X7_odds]; rfl
theorem I_X7_odds_18 : zin zm_X7_odds.2.2.2.2.2 18 = some (.iload_n 1, 1) := by rw [It_X7_odds]; rfl
theorem I_X7_odds_19 : zin zm_X7_odds.2.2.2.2.2 19 = some (.iload 5, 2) := by rw [It_X7_odds]; rfl
theorem I_X7_odds_21 : zin zm_X7_odds.2.2.2.2.2 21 = some (.ishr, 1) := by rw [It_X7_odds]; rfl
theorem I_X7_odds_22 : zin zm_X7_odds.2.2.2.2.2 22 = some (.iconst 1, 1) := by rw [It_X7_odds]; rfl
theorem I_X7_odds_23 : zin zm_X7_odds.2.2.2.2.2 23 = some (.iand, 1) := by rw [It_X7_odds]; rfl
theorem I_X7_odds_24 : zin zm_X7_odds.2.2.2.2.2 24 = some (.ifCond .eq 8, 3) := by rw [It_X7_odds]; rfl
theorem I_X7_odds_27 : zin zm_X7_odds.2.2.2.2.2 27 = some (.iload_n 2, 1) := by rw [It_X7_odds]; rfl
theorem I_X7_odds_28 : zin zm_X7_odds.2.2.2.2.2 28 = some (.i2l, 1) := by rw [It_X7_odds]; rfl
theorem I_X7_odds_29 : zin zm_X7_odds.2.2.2.2.2 29 = some (.goto 8, 3) := by rw [It_X7_odds]; rfl
theorem I_X7_odds_32 : zin zm_X7_odds.2.2.2.2.2 32 = some (.bipush 10, 2) := by rw [It_X7_odds]; rfl
theorem I_X7_odds_34 : zin zm_X7_odds.2.2.2.2.2 34 = some (.iload_n 2, 1) := by rw [It_X7_odds]; rfl
theorem I_X7_odds_35 : zin zm_X7_odds.2.2.2.2.2 35 = some (.isub, 1) := by rw [It_X7_odds]; rfl
theorem I_X7_odds_36 : zin zm_X7_odds.2.2.2.2.2 36 = some (.i2l, 1) := by rw [It_X7_odds]; rfl
theorem I_X7_odds_37 : zin zm_X7_odds.2.2.2.2.2 37 = some (.lmul, 1) := by rw [It_X7_odds]; rfl
theorem I_X7_odds_38 : zin zm_X7_odds.2.2.2.2.2 38 = some (.lstore_n 3, 1) := by rw [It_X7_odds]; rfl
theorem I_X7_odds_39 : zin zm_X7_odds.2.2.2.2.2 39 = some (.iinc 5 1, 3) := by rw [It_X7_odds]; rfl
theorem I_X7_odds_42 : zin zm_X7_odds.2.2.2.2.2 42 = some (.goto (-37), 3) := by rw [It_X7_odds]; rfl
theorem I_X7_odds_45 : zin zm_X7_odds.2.2.2.2.2 45 = some (.lload_n 3, 1) := by rw [It_X7_odds]; rfl
theorem I_X7_odds_46 : zin zm_X7_odds.2.2.2.2.2 46 = some (.lreturn, 1) := by rw [It_X7_odds]; rfl
theorem I_X7_partOfFraction_0 : zin zm_X7_partOfFraction.2.2.2.2.2 0 = some (.lload_n 2, 1) := by rw [It_X7_partOfFraction]; rfl
theorem I_X7_partOfFraction_1 : zin zm_X7_partOfFraction.2.2.2.2.2 1 = some (.lload_n 0, 1) := by rw [It_X7_partOfFraction]; rfl
theorem I_X7_partOfFraction_2 : zin zm_X7_partOfFraction.2.2.2.2.2 2 = some (.invokestatic 236, 3) := by rw [It_X7_partOfFraction]; rfl
theorem I_X7_partOfFraction_5 : zin zm_X7_partOfFraction.2.2.2.2.2 5 = some (.lstore 5, 2) := by rw [It_X7_partOfFraction]; rfl
theorem I_X7_partOfFraction_7 : zin zm_X7_partOfFraction.2.2.2.2.2 7 = some (.iload 4, 2) := by rw [It_X7_partOfFraction]; rfl
theorem I_X7_partOfFraction_9 : zin zm_X7_partOfFraction.2.2.2.2.2 9 = some (.ifCond .ne 7, 3) := by rw [It_X7_partOfFraction]; rfl
theorem I_X7_partOfFraction_12 : zin zm_X7_partOfFraction.2.2.2.2.2 12 = some (.lload_n 0, 1) := by rw [It_X7_partOfFraction]; rfl
theorem I_X7_partOfFraction_13 : zin zm_X7_partOfFraction.2.2.2.2.2 13 = some (.goto 4, 3) := by rw [It_X7_partOfFraction]; rfl
theorem I_X7_partOfFraction_16 : zin zm_X7_partOfFraction.2.2.2.2.2 16 = some (.lload_n 2, 1) := by rw [It_X7_partOfFraction]; rfl
theorem I_X7_partOfFraction_17 : zin zm_X7_partOfFraction.2.2.2.2.2 17 = some (.lstore 7, 2) := by rw [It_X7_partOfFraction]; rfl
theorem I_X7_partOfFraction_19 : zin zm_X7_partOfFraction.2.2.2.2.2 19 = some (.lload 5, 2) := by rw [It_X7_partOfFraction]; rfl
theorem I_X7_partOfFraction_21 : zin zm_X7_partOfFraction.2.2.2.2.2 21 = some (.lconst 0, 1) := by rw [It_X7_partOfFraction]; rfl
theorem I_X7_partOfFraction_22 : zin zm_X7_partOfFraction.2.2.2.2.2 22 = some (.lcmp, 1) := by rw [It_X7_partOfFraction]; rfl
theorem I_X7_partOfFraction_23 : zin zm_X7_partOfFraction.2.2.2.2.2 23 = some (.ifCond .ne 8, 3) := by rw [It_X7_partOfFraction]; rfl
theorem I_X7_partOfFraction_26 : zin zm_X7_partOfFraction.2.2.2.2.2 26 = some (.lload 7, 2) := by rw [It_X7_partOfFraction]; rfl
theorem I_X7_partOfFraction_28 : zin zm_X7_partOfFraction.2.2.2.2.2 28 = some (.goto 8, 3) := by rw [It_X7_partOfFraction]; rfl
theorem I_X7_partOfFraction_31 : zin zm_X7_partOfFraction.2.2.2.2.2 31 = some (.lload 7, 2) := by rw [It_X7_partOfFraction]; rfl
theorem I_X7_partOfFraction_33 : zin zm_X7_partOfFraction.2.2.2.2.2 33 = some (.lload 5, 2) := by rw [It_X7_partOfFraction]; rfl
theorem I_X7_partOfFraction_35 : zin zm_X7_partOfFraction.2.2.2.2.2 35 = some (.ldiv, 1) := by rw [It_X7_partOfFraction]; rfl
theorem I_X7_partOfFraction_36 : zin zm_X7_partOfFraction.2.2.2.2.2 36 = some (.lreturn, 1) := by rw [It_X7_partOfFraction]; rfl
theorem I_X7_rehearseWithout_0 : zin zm_X7_rehearseWithout.2.2.2.2.2 0 = some (.aload_n 0, 1) := by rw [It_X7_rehearseWithout]; rfl
theorem I_X7_rehearseWithout_1 : zin zm_X7_rehearseWithout.2.2.2.2.2 1 = some (.getfield 26, 3) := by rw [It_X7_rehearseWithout]; rfl
theorem I_X7_rehearseWithout_4 : zin zm_X7_rehearseWithout.2.2.2.2.2 4 = some (.getfield 173, 3) := by rw [It_X7_rehearseWithout]; rfl
theorem I_X7_rehearseWithout_7 : zin zm_X7_rehearseWithout.2.2.2.2.2 7 = some (.aload_n 0, 1) := by rw [It_X7_rehearseWithout]; rfl
theorem I_X7_rehearseWithout_8 : zin zm_X7_rehearseWithout.2.2.2.2.2 8 = some (.getfield 19, 3) := by rw [It_X7_rehearseWithout]; rfl
theorem I_X7_rehearseWithout_11 : zin zm_X7_rehearseWithout.2.2.2.2.2 11 = some (.invokevirtual 77, 3) := by rw [It_X7_rehearseWithout]; rfl
theorem I_X7_rehearseWithout_14 : zin zm_X7_rehearseWithout.2.2.2.2.2 14 = some (.aload_n 0, 1) := by rw [It_X7_rehearseWithout]; rfl
theorem I_X7_rehearseWithout_15 : zin zm_X7_rehearseWithout.2.2.2.2.2 15 = some (.getfield 26, 3) := by rw [It_X7_rehearseWithout]; rfl
theorem I_X7_rehearseWithout_18 : zin zm_X7_rehearseWithout.2.2.2.2.2 18 = some (.bipush 31, 2) := by rw [It_X7_rehearseWithout]; rfl
theorem I_X7_rehearseWithout_20 : zin zm_X7_rehearseWithout.2.2.2.2.2 20 = some (.iload_n 1, 1) := by rw [It_X7_rehearseWithout]; rfl
theorem I_X7_rehearseWithout_21 : zin zm_X7_rehearseWithout.2.2.2.2.2 21 = some (.iconst (-1), 1) := by rw [It_X7_rehearseWithout]; rfl
theorem I_X7_rehearseWithout_22 : zin zm_X7_rehearseWithout.2.2.2.2.2 22 = some (.ixor, 1) := by rw [It_X7_rehearseWithout]; rfl
theorem I_X7_rehearseWithout_23 : zin zm_X7_rehearseWithout.2.2.2.2.2 23 = some (.iand, 1) := by rw [It_X7_rehearseWithout]; rfl
theorem I_X7_rehearseWithout_24 : zin zm_X7_rehearseWithout.2.2.2.2.2 24 = some (.invokevirtual 179, 3) := by rw [It_X7_rehearseWithout]; rfl
theorem I_X7_rehearseWithout_27 : zin zm_X7_rehearseWithout.2.2.2.2.2 27 = some (.ireturn, 1) := by rw [It_X7_rehearseWithout]; rfl
theorem I_X8_byAway_0 : zin zm_X8_byAway.2.2.2.2.2 0 = some (.lconst 0, 1) := by rw [It_X8_byAway]; rfl
theorem I_X8_byAway_1 : zin zm_X8_byAway.2.2.2.2.2 1 = some (.lstore 4, 2) := by rw [It_X8_byAway]; rfl
theorem I_X8_byAway_3 : zin zm_X8_byAway.2.2.2.2.2 3 = some (.lconst 1, 1) := by rw [It_X8_byAway]; rfl
theorem I_X8_byAway_4 : zin zm_X8_byAway.2.2.2.2.2 4 = some (.lstore 6, 2) := by rw [It_X8_byAway]; rfl
theorem I_X8_byAway_6 : zin zm_X8_byAway.2.2.2.2.2 6 = some (.iconst 0, 1) := by rw [It_X8_byAway]; rfl
theorem I_X8_byAway_7 : zin zm_X8_byAway.2.2.2.2.2 7 = some (.istore 8, 2) := by rw [It_X8_byAway]; rfl
theorem I_X8_byAway_9 : zin zm_X8_byAway.2.2.2.2.2 9 = some (.iload 8, 2) := by rw [It_X8_byAway]; rfl
theorem I_X8_byAway_11 : zin zm_X8_byAway.2.2.2.2.2 11 = some (.aload_n 0, 1) := by rw [It_X8_byAway]; rfl
theorem I_X8_byAway_12 : zin zm_X8_byAway.2.2.2.2.2 12 = some (.getfield 131, 3) := by rw [It_X8_byAway]; rfl
theorem I_X8_byAway_15 : zin zm_X8_byAway.2.2.2.2.2 15 = some (.if_icmp .ge 17, 3) := by rw [It_X8_byAway]; rfl
theorem I_X8_byAway_18 : zin zm_X8_byAway.2.2.2.2.2 18 = some (.lload 6, 2) := by rw [It_X8_byAway]; rfl
theorem I_X8_byAway_20 : zin zm_X8_byAway.2.2.2.2.2 20 = some (.ldc2_w 204, 3) := by rw [It_X8_byAway]; rfl
theorem I_X8_byAway_23 : zin zm_X8_byAway.2.2.2.2.2 23 = some (.lmul, 1) := by rw [It_X8_byAway]; rfl
theorem I_X8_byAway_24 : zin zm_X8_byAway.2.2.2.2.2 24 = some (.lstore 6, 2) := by rw [It_X8_byAway]; rfl
theorem I_X8_byAway_26 : zin zm_X8_byAway.2.2.2.2.2 26 = some (.iinc 8 1, 3) := by rw [It_X8_byAway]; rfl
theorem I_X8_byAway_29 : zin zm_X8_byAway.2.2.2.2.2 29 = some (.goto (-20), 3) := by rw [It_X8_byAway]; rfl
theorem I_X8_byAway_32 : zin zm_X8_byAway.2.2.2.2.2 32 = some (.iconst 0, 1) := by rw [It_X8_byAway]; rfl
theorem I_X8_byAway_33 : zin zm_X8_byAway.2.2.2.2.2 33 = some (.istore 8, 2) := by rw [It_X8_byAway]; rfl
theorem I_X8_byAway_35 : zin zm_X8_byAway.2.2.2.2.2 35 = some (.iload 8, 2) := by rw [It_X8_byAway]; rfl
theorem I_X8_byAway_37 : zin zm_X8_byAway.2.2.2.2.2 37 = some (.aload_n 0, 1) := by rw [It_X8_byAway]; rfl
theorem I_X8_byAway_38 : zin zm_X8_byAway.2.2.2.2.2 38 = some (.invokevirtual 167, 3) := by rw [It_X8_byAway]; rfl
theorem I_X8_byAway_41 : zin zm_X8_byAway.2.2.2.2.2 41 = some (.if_icmp .gt 99, 3) := by rw [It_X8_byAway]; rfl
theorem I_X8_byAway_44 : zin zm_X8_byAway.2.2.2.2.2 44 = some (.lconst 1, 1) := by rw [It_X8_byAway]; rfl
theorem I_X8_byAway_45 : zin zm_X8_byAway.2.2.2.2.2 45 = some (.lstore 9, 2) := by rw [It_X8_byAway]; rfl
theorem I_X8_byAway_47 : zin zm_X8_byAway.2.2.2.2.2 47 = some (.iconst 0, 1) := by rw [It_X8_byAway]; rfl
theorem I_X8_byAway_48 : zin zm_X8_byAway.2.2.2.2.2 48 = some (.istore 11, 2) := by rw [It_X8_byAway]; rfl
theorem I_X8_byAway_50 : zin zm_X8_byAway.2.2.2.2.2 50 = some (.iload 11, 2) := by rw [It_X8_byAway]; rfl
theorem I_X8_byAway_52 : zin zm_X8_byAway.2.2.2.2.2 52 = some (.aload_n 0, 1) := by rw [It_X8_byAway]; rfl
theorem I_X8_byAway_53 : zin zm_X8_byAway.2.2.2.2.2 53 = some (.getfield 131, 3) := by rw [It_X8_byAway]; rfl
theorem I_X8_byAway_56 : zin zm_X8_byAway.2.2.2.2.2 56 = some (.if_icmp .ge 35, 3) := by rw [It_X8_byAway]; rfl
theorem I_X8_byAway_59 : zin zm_X8_byAway.2.2.2.2.2 59 = some (.lload 9, 2) := by rw [It_X8_byAway]; rfl
theorem I_X8_byAway_61 : zin zm_X8_byAway.2.2.2.2.2 61 = some (.iload 8, 2) := by rw [It_X8_byAway]; rfl
theorem I_X8_byAway_63 : zin zm_X8_byAway.2.2.2.2.2 63 = some (.iload 11, 2) := by rw [It_X8_byAway]; rfl
theorem I_X8_byAway_65 : zin zm_X8_byAway.2.2.2.2.2 65 = some (.ishr, 1) := by rw [It_X8_byAway]; rfl
theorem I_X8_byAway_66 : zin zm_X8_byAway.2.2.2.2.2 66 = some (.iconst 1, 1) := by rw [It_X8_byAway]; rfl
theorem I_X8_byAway_67 : zin zm_X8_byAway.2.2.2.2.2 67 = some (.iand, 1) := by rw [It_X8_byAway]; rfl
theorem I_X8_byAway_68 : zin zm_X8_byAway.2.2.2.2.2 68 = some (.iconst 1, 1) := by rw [It_X8_byAway]; rfl
theorem I_X8_byAway_69 : zin zm_X8_byAway.2.2.2.2.2 69 = some (.if_icmp .ne 8, 3) := by rw [It_X8_byAway]; rfl
theorem I_X8_byAway_72 : zin zm_X8_byAway.2.2.2.2.2 72 = some (.iload_n 1, 1) := by rw [It_X8_byAway]; rfl
theorem I_X8_byAway_73 : zin zm_X8_byAway.2.2.2.2.2 73 = some (.i2l, 1) := by rw [It_X8_byAway]; rfl
theorem I_X8_byAway_74 : zin zm_X8_byAway.2.2.2.2.2 74 = some (.goto 8, 3) := by rw [It_X8_byAway]; rfl
theorem I_X8_byAway_77 : zin zm_X8_byAway.2.2.2.2.2 77 = some (.bipush 10, 2) := by rw [It_X8_byAway]; rfl
theorem I_X8_byAway_79 : zin zm_X8_byAway.2.2.2.2.2 79 = some (.iload_n 1, 1) := by rw [It_X8_byAway]; rfl
theorem I_X8_byAway_80 : zin zm_X8_byAway.2.2.2.2.2 80 = some (.isub, 1) := by rw [It_X8_byAway]; rfl
theorem I_X8_byAway_81 : zin zm_X8_byAway.2.2.2.2.2 81 = some (.i2l, 1) := by rw [It_X8_byAway]; rfl
theorem I_X8_byAway_82 : zin zm_X8_byAway.2.2.2.2.2 82 = some (.lmul, 1) := by rw [It_X8_byAway]; rfl
theorem I_X8_byAway_83 : zin zm_X8_byAway.2.2.2.2.2 83 = some (.lstore 9, 2) := by rw [It_X8_byAway]; rfl
theorem I_X8_byAway_85 : zin zm_X8_byAway.2.2.2.2.2 85 = some (.iinc 11 1, 3) := by rw [It_X8_byAway]; rfl
theorem I_X8_byAway_88 : zin zm_X8_byAway.2.2.2.2.2 88 = some (.goto (-38), 3) := by rw [It_X8_byAway]; rfl
theorem I_X8_byAway_91 : zin zm_X8_byAway.2.2.2.2.2 91 = some (.aload_n 0, 1) := by rw [It_X8_byAway]; rfl
theorem I_X8_byAway_92 : zin zm_X8_byAway.2.2.2.2.2 92 = some (.iconst 0, 1) := by rw [It_X8_byAway]; rfl
theorem I_X8_byAway_93 : zin zm_X8_byAway.2.2.2.2.2 93 = some (.bipush 108, 2) := by rw [It_X8_byAway]; rfl
theorem I_X8_byAway_95 : zin zm_X8_byAway.2.2.2.2.2 95 = some (.invokevirtual 188, 3) := by rw [It_X8_byAway]; rfl
theorem I_X8_byAway_98 : zin zm_X8_byAway.2.2.2.2.2 98 = some (.aload_n 0, 1) := by rw [It_X8_byAway]; rfl
theorem I_X8_byAway_99 : zin zm_X8_byAway.2.2.2.2.2 99 = some (.iload 8, 2) := by rw [It_X8_byAway]; rfl
theorem I_X8_byAway_101 : zin zm_X8_byAway.2.2.2.2.2 101 = some (.invokevirtual 192, 3) := by rw [It_X8_byAway]; rfl
theorem I_X8_byAway_104 : zin zm_X8_byAway.2.2.2.2.2 104 = some (.lload 4, 2) := by rw [It_X8_byAway]; rfl
theorem I_X8_byAway_106 : zin zm_X8_byAway.2.2.2.2.2 106 = some (.lload 9, 2) := by rw [It_X8_byAway]; rfl
theorem I_X8_byAway_108 : zin zm_X8_byAway.2.2.2.2.2 108 = some (.iload_n 2, 1) := by rw [It_X8_byAway]; rfl
theorem I_X8_byAway_109 : zin zm_X8_byAway.2.2.2.2.2 109 = some (.bipush (-4), 2) := by rw [It_X8_byAway]; rfl
theorem I_X8_byAway_111 : zin zm_X8_byAway.2.2.2.2.2 111 = some (.if_icmp .ne 10, 3) := by rw [It_X8_byAway]; rfl
theorem I_X8_byAway_114 : zin zm_X8_byAway.2.2.2.2.2 114 = some (.aload_n 0, 1) := by rw [It_X8_byAway]; rfl
theorem I_X8_byAway_115 : zin zm_X8_byAway.2.2.2.2.2 115 = some (.getfield 179, 3) := by rw [It_X8_byAway]; rfl
theorem I_X8_byAway_118 : zin zm_X8_byAway.2.2.2.2.2 118 = some (.goto 11, 3) := by rw [It_X8_byAway]; rfl
theorem I_X8_byAway_121 : zin zm_X8_byAway.2.2.2.2.2 121 = some (.aload_n 0, 1) := by rw [It_X8_byAway]; rfl
theorem I_X8_byAway_122 : zin zm_X8_byAway.2.2.2.2.2 122 = some (.getfield 182, 3) := by rw [It_X8_byAway]; rfl
theorem I_X8_byAway_125 : zin zm_X8_byAway.2.2.2.2.2 125 = some (.iload_n 2, 1) := by rw [It_X8_byAway]; rfl
theorem I_X8_byAway_126 : zin zm_X8_byAway.2.2.2.2.2 126 = some (.ishr, 1) := by rw [It_X8_byAway]; rfl
theorem I_X8_byAway_127 : zin zm_X8_byAway.2.2.2.2.2 127 = some (.iconst 1, 1) := by rw [It_X8_byAway]; rfl
theorem I_X8_byAway_128 : zin zm_X8_byAway.2.2.2.2.2 128 = some (.iand, 1) := by rw [It_X8_byAway]; rfl
theorem I_X8_byAway_129 : zin zm_X8_byAway.2.2.2.2.2 129 = some (.i2l, 1) := by rw [It_X8_byAway]; rfl
theorem I_X8_byAway_130 : zin zm_X8_byAway.2.2.2.2.2 130 = some (.lmul, 1) := by rw [It_X8_byAway]; rfl
theorem I_X8_byAway_131 : zin zm_X8_byAway.2.2.2.2.2 131 = some (.ladd, 1) := by rw [It_X8_byAway]; rfl
theorem I_X8_byAway_132 : zin zm_X8_byAway.2.2.2.2.2 132 = some (.lstore 4, 2) := by rw [It_X8_byAway]; rfl
theorem I_X8_byAway_134 : zin zm_X8_byAway.2.2.2.2.2 134 = some (.iinc 8 1, 3) := by rw [It_X8_byAway]; rfl
theorem I_X8_byAway_137 : zin zm_X8_byAway.2.2.2.2.2 137 = some (.goto (-102), 3) := by rw [It_X8_byAway]; rfl
theorem I_X8_byAway_140 : zin zm_X8_byAway.2.2.2.2.2 140 = some (.lload 4, 2) := by rw [It_X8_byAway]; rfl
theorem I_X8_byAway_142 : zin zm_X8_byAway.2.2.2.2.2 142 = some (.lload 6, 2) := by rw [It_X8_byAway]; rfl
theorem I_X8_byAway_144 : zin zm_X8_byAway.2.2.2.2.2 144 = some (.iload_n 3, 1) := by rw [It_X8_byAway]; rfl
theorem I_X8_byAway_145 : zin zm_X8_byAway.2.2.2.2.2 145 = some (.invokestatic 220, 3) := by rw [It_X8_byAway]; rfl
theorem I_X8_byAway_148 : zin zm_X8_byAway.2.2.2.2.2 148 = some (.lreturn, 1) := by rw [It_X8_byAway]; rfl
theorem I_X8_lowest_0 : zin zm_X8_lowest.2.2.2.2.2 0 = some (.lload_n 0, 1) := by rw [It_X8_lowest]; rfl
theorem I_X8_lowest_1 : zin zm_X8_lowest.2.2.2.2.2 1 = some (.lstore 5, 2) := by rw [It_X8_lowest]; rfl
theorem I_X8_lowest_3 : zin zm_X8_lowest.2.2.2.2.2 3 = some (.lload_n 2, 1) := by rw [It_X8_lowest]; rfl
theorem I_X8_lowest_4 : zin zm_X8_lowest.2.2.2.2.2 4 = some (.lstore 7, 2) := by rw [It_X8_lowest]; rfl
theorem I_X8_lowest_6 : zin zm_X8_lowest.2.2.2.2.2 6 = some (.lload 7, 2) := by rw [It_X8_lowest]; rfl
theorem I_X8_lowest_8 : zin zm_X8_lowest.2.2.2.2.2 8 = some (.lconst 0, 1) := by rw [It_X8_lowest]; rfl
theorem I_X8_lowest_9 : zin zm_X8_lowest.2.2.2.2.2 9 = some (.lcmp, 1) := by rw [It_X8_lowest]; rfl
theorem I_X8_lowest_10 : zin zm_X8_lowest.2.2.2.2.2 10 = some (.ifCond .eq 21, 3) := by rw [It_X8_lowest]; rfl
theorem I_X8_lowest_13 : zin zm_X8_lowest.2.2.2.2.2 13 = some (.lload 5, 2) := by rw [It_X8_lowest]; rfl
theorem I_X8_lowest_15 : zin zm_X8_lowest.2.2.2.2.2 15 = some (.lload 7, 2) := by rw [It_X8_lowest]; rfl
theorem I_X8_lowest_17 : zin zm_X8_lowest.2.2.2.2.2 17 = some (.lrem, 1) := by rw [It_X8_lowest]; rfl
theorem I_X8_lowest_18 : zin zm_X8_lowest.2.2.2.2.2 18 = some (.lstore 9, 2) := by rw [It_X8_lowest]; rfl
theorem I_X8_lowest_20 : zin zm_X8_lowest.2.2.2.2.2 20 = some (.lload 7, 2) := by rw [It_X8_lowest]; rfl
theorem I_X8_lowest_22 : zin zm_X8_lowest.2.2.2.2.2 22 = some (.lstore 5, 2) := by rw [It_X8_lowest]; rfl
theorem I_X8_lowest_24 : zin zm_X8_lowest.2.2.2.2.2 24 = some (.lload 9, 2) := by rw [It_X8_lowest]; rfl
theorem I_X8_lowest_26 : zin zm_X8_lowest.2.2.2.2.2 26 = some (.lstore 7, 2) := by rw [It_X8_lowest]; rfl
theorem I_X8_lowest_28 : zin zm_X8_lowest.2.2.2.2.2 28 = some (.goto (-22), 3) := by rw [It_X8_lowest]; rfl
theorem I_X8_lowest_31 : zin zm_X8_lowest.2.2.2.2.2 31 = some (.iload 4, 2) := by rw [It_X8_lowest]; rfl
theorem I_X8_lowest_33 : zin zm_X8_lowest.2.2.2.2.2 33 = some (.ifCond .ne 7, 3) := by rw [It_X8_lowest]; rfl
theorem I_X8_lowest_36 : zin zm_X8_lowest.2.2.2.2.2 36 = some (.lload_n 0, 1) := by rw [It_X8_lowest]; rfl
theorem I_X8_lowest_37 : zin zm_X8_lowest.2.2.2.2.2 37 = some (.goto 4, 3) := by rw [It_X8_lowest]; rfl
theorem I_X8_lowest_40 : zin zm_X8_lowest.2.2.2.2.2 40 = some (.lload_n 2, 1) := by rw [It_X8_lowest]; rfl
theorem I_X8_lowest_41 : zin zm_X8_lowest.2.2.2.2.2 41 = some (.lload 5, 2) := by rw [It_X8_lowest]; rfl
theorem I_X8_lowest_43 : zin zm_X8_lowest.2.2.2.2.2 43 = some (.ldiv, 1) := by rw [It_X8_lowest]; rfl
theorem I_X8_lowest_44 : zin zm_X8_lowest.2.2.2.2.2 44 = some (.lreturn, 1) := by rw [It_X8_lowest]; rfl
theorem I_X8_luck_0 : zin zm_X8_luck.2.2.2.2.2 0 = some (.iload_n 1, 1) := by rw [It_X8_luck]; rfl
theorem I_X8_luck_1 : zin zm_X8_luck.2.2.2.2.2 1 = some (.i2l, 1) := by rw [It_X8_luck]; rfl
theorem I_X8_luck_2 : zin zm_X8_luck.2.2.2.2.2 2 = some (.lconst 0, 1) := by rw [It_X8_luck]; rfl
theorem I_X8_luck_3 : zin zm_X8_luck.2.2.2.2.2 3 = some (.ldc2_w 204, 3) := by rw [It_X8_luck]; rfl
theorem I_X8_luck_6 : zin zm_X8_luck.2.2.2.2.2 6 = some (.invokestatic 55, 3) := by rw [It_X8_luck]; rfl
theorem I_X8_luck_9 : zin zm_X8_luck.2.2.2.2.2 9 = some (.ifCond .eq 31, 3) := by rw [It_X8_luck]; rfl
theorem I_X8_luck_12 : zin zm_X8_luck.2.2.2.2.2 12 = some (.aload_n 0, 1) := by rw [It_X8_luck]; rfl
theorem I_X8_luck_13 : zin zm_X8_luck.2.2.2.2.2 13 = some (.iload_n 2, 1) := by rw [It_X8_luck]; rfl
theorem I_X8_luck_14 : zin zm_X8_luck.2.2.2.2.2 14 = some (.invokevirtual 151, 3) := by rw [It_X8_luck]; rfl
theorem I_X8_luck_17 : zin zm_X8_luck.2.2.2.2.2 17 = some (.ifCond .eq 23, 3) := by rw [It_X8_luck]; rfl
theorem I_X8_luck_20 : zin zm_X8_luck.2.2.2.2.2 20 = some (.iload_n 3, 1) := by rw [It_X8_luck]; rfl
theorem I_X8_luck_21 : zin zm_X8_luck.2.2.2.2.2 21 = some (.i2l, 1) := by rw [It_X8_luck]; rfl
theorem I_X8_luck_22 : zin zm_X8_luck.2.2.2.2.2 22 = some (.lconst 0, 1) := by rw [It_X8_luck]; rfl
theorem I_X8_luck_23 : zin zm_X8_luck.2.2.2.2.2 23 = some (.lconst 1, 1) := by rw [It_X8_luck]; rfl
theorem I_X8_luck_24 : zin zm_X8_luck.2.2.2.2.2 24 = some (.invokestatic 55, 3) := by rw [It_X8_luck]; rfl
theorem I_X8_luck_27 : zin zm_X8_luck.2.2.2.2.2 27 = some (.ifCond .eq 13, 3) := by rw [It_X8_luck]; rfl
theorem I_X8_luck_30 : zin zm_X8_luck.2.2.2.2.2 30 = some (.aload_n 0, 1) := by rw [It_X8_luck]; rfl
theorem I_X8_luck_31 : zin zm_X8_luck.2.2.2.2.2 31 = some (.iload_n 1, 1) := by rw [It_X8_luck]; rfl
theorem I_X8_luck_32 : zin zm_X8_luck.2.2.2.2.2 32 = some (.iload_n 2, 1) := by rw [It_X8_luck]; rfl
theorem I_X8_luck_33 : zin zm_X8_luck.2.2.2.2.2 33 = some (.iload_n 3, 1) := by rw [It_X8_luck]; rfl
theorem I_X8_luck_34 : zin zm_X8_luck.2.2.2.2.2 34 = some (.invokevirtual 224, 3) := by rw [It_X8_luck]; rfl
theorem I_X8_luck_37 : zin zm_X8_luck.2.2.2.2.2 37 = some (.goto 6, 3) := by rw [It_X8_luck]; rfl
theorem I_X8_luck_40 : zin zm_X8_luck.2.2.2.2.2 40 = some (.ldc2_w 228, 3) := by rw [It_X8_luck]; rfl
theorem I_X8_luck_43 : zin zm_X8_luck.2.2.2.2.2 43 = some (.lreturn, 1) := by rw [It_X8_luck]; rfl
theorem I_X8_mean_0 : zin zm_X8_mean.2.2.2.2.2 0 = some (.iload_n 1, 1) := by rw [It_X8_mean]; rfl
theorem I_X8_mean_1 : zin zm_X8_mean.2.2.2.2.2 1 = some (.i2l, 1) := by rw [It_X8_mean]; rfl
theorem I_X8_mean_2 : zin zm_X8_mean.2.2.2.2.2 2 = some (.lconst 0, 1) := by rw [It_X8_mean]; rfl
theorem I_X8_mean_3 : zin zm_X8_mean.2.2.2.2.2 3 = some (.ldc2_w 204, 3) := by rw [It_X8_mean]; rfl
theorem I_X8_mean_6 : zin zm_X8_mean.2.2.2.2.2 6 = some (.invokestatic 55, 3) := by rw [It_X8_mean]; rfl
theorem I_X8_mean_9 : zin zm_X8_mean.2.2.2.2.2 9 = some (.ifCond .eq 24, 3) := by rw [It_X8_mean]; rfl
theorem I_X8_mean_12 : zin zm_X8_mean.2.2.2.2.2 12 = some (.iload_n 2, 1) := by rw [It_X8_mean]; rfl
theorem I_X8_mean_13 : zin zm_X8_mean.2.2.2.2.2 13 = some (.i2l, 1) := by rw [It_X8_mean]; rfl
theorem I_X8_mean_14 : zin zm_X8_mean.2.2.2.2.2 14 = some (.lconst 0, 1) := by rw [It_X8_mean]; rfl
theorem I_X8_mean_15 : zin zm_X8_mean.2.2.2.2.2 15 = some (.lconst 1, 1) := by rw [It_X8_mean]; rfl
theorem I_X8_mean_16 : zin zm_X8_mean.2.2.2.2.2 16 = some (.invokestatic 55, 3) := by rw [It_X8_mean]; rfl
theorem I_X8_mean_19 : zin zm_X8_mean.2.2.2.2.2 19 = some (.ifCond .eq 14, 3) := by rw [It_X8_mean]; rfl
theorem I_X8_mean_22 : zin zm_X8_mean.2.2.2.2.2 22 = some (.aload_n 0, 1) := by rw [It_X8_mean]; rfl
theorem I_X8_mean_23 : zin zm_X8_mean.2.2.2.2.2 23 = some (.iload_n 1, 1) := by rw [It_X8_mean]; rfl
theorem I_X8_mean_24 : zin zm_X8_mean.2.2.2.2.2 24 = some (.bipush (-4), 2) := by rw [It_X8_mean]; rfl
theorem I_X8_mean_26 : zin zm_X8_mean.2.2.2.2.2 26 = some (.iload_n 2, 1) := by rw [It_X8_mean]; rfl
theorem I_X8_mean_27 : zin zm_X8_mean.2.2.2.2.2 27 = some (.invokevirtual 224, 3) := by rw [It_X8_mean]; rfl
theorem I_X8_mean_30 : zin zm_X8_mean.2.2.2.2.2 30 = some (.goto 6, 3) := by rw [It_X8_mean]; rfl
theorem I_X8_mean_33 : zin zm_X8_mean.2.2.2.2.2 33 = some (.ldc2_w 228, 3) := by rw [It_X8_mean]; rfl
theorem I_X8_mean_36 : zin zm_X8_mean.2.2.2.2.2 36 = some (.lreturn, 1) := by rw [It_X8_mean]; rfl
theorem K_7_219 : zlk zmls 7 219 = some (0, 95, 2, 706) := rfl
theorem K_7_223 : zlk zmls 7 223 = some (0, 94, 1, 710) := rfl
theorem K_7_226 : zlk zmls 7 226 = some (0, 96, 0, 714) := rfl
theorem K_7_230 : zlk zmls 7 230 = some (1, 97, 3, 719) := rfl
theorem K_7_236 : zlk zmls 7 236 = some (1, 98, 2, 722) := rfl
theorem K_8_220 : zlk zmls 8 220 = some (1, 163, 3, 1148) := rfl
theorem K_8_224 : zlk zmls 8 224 = some (0, 164, 3, 1144) := rfl
theorem Zm_94 : zms[94]? = some zm_X7_rehearseWithout := rfl
theorem Zm_95 : zms[95]? = some zm_X7_odds := rfl
theorem Zm_96 : zms[96]? = some zm_X7_allOdds := rfl
theorem Zm_97 : zms[97]? = some zm_X7_partOfFraction := rfl
theorem Zm_98 : zms[98]? = some zm_X7_commonDivisor := rfl
theorem Zm_163 : zms[163]? = some zm_X8_lowest := rfl
theorem Zm_164 : zms[164]? = some zm_X8_byAway := rfl
theorem J_7_217 : zlk zcJs 7 217 = some ((-1), 705) := rfl
theorem J_7_234 : zlk zcJs 7 234 = some (10, 718) := rfl
theorem J_8_204 : zlk zcJs 8 204 = some (10, 1104) := rfl
theorem J_8_228 : zlk zcJs 8 228 = some ((-1), 1151) := rfl
theorem cl_X7_allOdds : zm_X7_allOdds.2.2.2.2.1 = 7 := by
  unfold zm_X7_allOdds
  rfl
theorem cn_X7_allOdds : zm_X7_allOdds.2.2.2.2.1 ≠ 12 := by
  rw [cl_X7_allOdds]
  decide
theorem cn2_X7_allOdds : zm_X7_allOdds.2.2.2.2.1 ≠ 2 := by
  rw [cl_X7_allOdds]
  decide
theorem cl_X7_luck : zm_X7_luck.2.2.2.2.1 = 7 := by
  unfold zm_X7_luck
  rfl
theorem cn_X7_luck : zm_X7_luck.2.2.2.2.1 ≠ 12 := by
  rw [cl_X7_luck]
  decide
theorem cn2_X7_luck : zm_X7_luck.2.2.2.2.1 ≠ 2 := by
  rw [cl_X7_luck]
  decide
theorem cl_X7_mean : zm_X7_mean.2.2.2.2.1 = 7 := by
  unfold zm_X7_mean
  rfl
theorem cn_X7_mean : zm_X7_mean.2.2.2.2.1 ≠ 12 := by
  rw [cl_X7_mean]
  decide
theorem cn2_X7_mean : zm_X7_mean.2.2.2.2.1 ≠ 2 := by
  rw [cl_X7_mean]
  decide
theorem cl_X7_odds : zm_X7_odds.2.2.2.2.1 = 7 := by
  unfold zm_X7_odds
  rfl
theorem cn_X7_odds : zm_X7_odds.2.2.2.2.1 ≠ 12 := by
  rw [cl_X7_odds]
  decide
theorem cn2_X7_odds : zm_X7_odds.2.2.2.2.1 ≠ 2 := by
  rw [cl_X7_odds]
  decide
theorem cl_X7_rehearseWithout : zm_X7_rehearseWithout.2.2.2.2.1 = 7 := by
  unfold zm_X7_rehearseWithout
  rfl
theorem cn_X7_rehearseWithout : zm_X7_rehearseWithout.2.2.2.2.1 ≠ 12 := by
  rw [cl_X7_rehearseWithout]
  decide
theorem cn2_X7_rehearseWithout : zm_X7_rehearseWithout.2.2.2.2.1 ≠ 2 := by
  rw [cl_X7_rehearseWithout]
  decide
theorem cl_X8_byAway : zm_X8_byAway.2.2.2.2.1 = 8 := by
  unfold zm_X8_byAway
  rfl
theorem cn_X8_byAway : zm_X8_byAway.2.2.2.2.1 ≠ 12 := by
  rw [cl_X8_byAway]
  decide
theorem cn2_X8_byAway : zm_X8_byAway.2.2.2.2.1 ≠ 2 := by
  rw [cl_X8_byAway]
  decide
theorem i_jcd {sc : Option (List Int32)} {d : Nat} {mi mi1 : zMi} {pc q : Nat} {L sk : List Value} {m : zM} {r : Option Value} {h' : zHp} {i id e : Nat} {a : Int64} {b : Int64} (H : zE sc d mi pc L (.long b :: .long a :: sk) m r h') (hi : zin mi.2.2.2.2.2 pc = some (.invokestatic i, 3)) (hf : zlk zmls mi.2.2.2.2.1 i = some (1, id, 2, e)) (hm : zms[id]? = some mi1) (hq : pc + 3 = q) : ∃ r1 h1, zE none (d - 1) mi1 0 [.long a, .null, .long b, .null, .null, .null, .null, .null, .null, .null, .null] [] m r1 h1 ∧ (∀ v m1, r1 = some v → h1 = zhp m1 → zE sc d mi q L (v :: sk) m1 r h') := by
  obtain ⟨lo, h1, h2⟩ := H
  obtain ⟨y, hy⟩ := zEv_is h2
  have hy0 := hy
  rw [zstep_of hi] at hy
  simp [zst, zg, hf, Option.bind_eq_some_iff] at hy
  obtain ⟨_, hy⟩ := hy
  subst hq
  rw [← hy] at hy0
  obtain ⟨r1, g1, x1, x2⟩ := zEv_ic h2 hy0 hm
  refine ⟨r1, g1, ⟨_, fun k v hk hn => by
    match k, hk with
    | 0, hk => cases hk; rfl
    | 1, hk => cases hk; exact absurd rfl hn
    | 2, hk => cases hk; rfl
    | 3, hk => cases hk; exact absurd rfl hn
    | 4, hk => cases hk; exact absurd rfl hn
    | 5, hk => cases hk; exact absurd rfl hn
    | 6, hk => cases hk; exact absurd rfl hn
    | 7, hk => cases hk; exact absurd rfl hn
    | 8, hk => cases hk; exact absurd rfl hn
    | 9, hk => cases hk; exact absurd rfl hn
    | 10, hk => cases hk; exact absurd rfl hn
    | k + 11, hk => simp at hk, x1⟩, fun v m1 hr hg => ?_⟩
  subst hr; subst hg
  exact ⟨lo, h1, x2⟩
theorem i_jpf {sc : Option (List Int32)} {d : Nat} {mi mi1 : zMi} {pc q : Nat} {L sk : List Value} {m : zM} {r : Option Value} {h' : zHp} {i id e : Nat} {a : Int64} {b : Int64} {w : Int32} (H : zE sc d mi pc L (.int w :: .long b :: .long a :: sk) m r h') (hi : zin mi.2.2.2.2.2 pc = some (.invokestatic i, 3)) (hf : zlk zmls mi.2.2.2.2.1 i = some (1, id, 3, e)) (hm : zms[id]? = some mi1) (hq : pc + 3 = q) : ∃ r1 h1, zE none (d - 1) mi1 0 [.long a, .null, .long b, .null, .int w, .null, .null, .null, .null] [] m r1 h1 ∧ (∀ v m1, r1 = some v → h1 = zhp m1 → zE sc d mi q L (v :: sk) m1 r h') := by
  obtain ⟨lo, h1, h2⟩ := H
  obtain ⟨y, hy⟩ := zEv_is h2
  have hy0 := hy
  rw [zstep_of hi] at hy
  simp [zst, zg, hf, Option.bind_eq_some_iff] at hy
  obtain ⟨_, hy⟩ := hy
  subst hq
  rw [← hy] at hy0
  obtain ⟨r1, g1, x1, x2⟩ := zEv_ic h2 hy0 hm
  refine ⟨r1, g1, ⟨_, fun k v hk hn => by
    match k, hk with
    | 0, hk => cases hk; rfl
    | 1, hk => cases hk; exact absurd rfl hn
    | 2, hk => cases hk; rfl
    | 3, hk => cases hk; exact absurd rfl hn
    | 4, hk => cases hk; rfl
    | 5, hk => cases hk; exact absurd rfl hn
    | 6, hk => cases hk; exact absurd rfl hn
    | 7, hk => cases hk; exact absurd rfl hn
    | 8, hk => cases hk; exact absurd rfl hn
    | k + 9, hk => simp at hk, x1⟩, fun v m1 hr hg => ?_⟩
  subst hr; subst hg
  exact ⟨lo, h1, x2⟩
theorem i_jlo {sc : Option (List Int32)} {d : Nat} {mi mi1 : zMi} {pc q : Nat} {L sk : List Value} {m : zM} {r : Option Value} {h' : zHp} {i id e : Nat} {a : Int64} {b : Int64} {w : Int32} (H : zE sc d mi pc L (.int w :: .long b :: .long a :: sk) m r h') (hi : zin mi.2.2.2.2.2 pc = some (.invokestatic i, 3)) (hf : zlk zmls mi.2.2.2.2.1 i = some (1, id, 3, e)) (hm : zms[id]? = some mi1) (hq : pc + 3 = q) : ∃ r1 h1, zE none (d - 1) mi1 0 [.long a, .null, .long b, .null, .int w, .null, .null, .null, .null, .null, .null] [] m r1 h1 ∧ (∀ v m1, r1 = some v → h1 = zhp m1 → zE sc d mi q L (v :: sk) m1 r h') := by
  obtain ⟨lo, h1, h2⟩ := H
  obtain ⟨y, hy⟩ := zEv_is h2
  have hy0 := hy
  rw [zstep_of hi] at hy
  simp [zst, zg, hf, Option.bind_eq_some_iff] at hy
  obtain ⟨_, hy⟩ := hy
  subst hq
  rw [← hy] at hy0
  obtain ⟨r1, g1, x1, x2⟩ := zEv_ic h2 hy0 hm
  refine ⟨r1, g1, ⟨_, fun k v hk hn => by
    match k, hk with
    | 0, hk => cases hk; rfl
    | 1, hk => cases hk; exact absurd rfl hn
    | 2, hk => cases hk; rfl
    | 3, hk => cases hk; exact absurd rfl hn
    | 4, hk => cases hk; rfl
    | 5, hk => cases hk; exact absurd rfl hn
    | 6, hk => cases hk; exact absurd rfl hn
    | 7, hk => cases hk; exact absurd rfl hn
    | 8, hk => cases hk; exact absurd rfl hn
    | 9, hk => cases hk; exact absurd rfl hn
    | 10, hk => cases hk; exact absurd rfl hn
    | k + 11, hk => simp at hk, x1⟩, fun v m1 hr hg => ?_⟩
  subst hr; subst hg
  exact ⟨lo, h1, x2⟩
theorem lgc_0 {x y : Int64} : lg_cmp x y = 0 ↔ x = y := by
  unfold lg_cmp
  by_cases h1 : x > y
  · rw [if_pos h1]
    refine ⟨fun q => absurd q (by decide), fun q => ?_⟩
    rw [q] at h1
    exact absurd (Int64.lt_iff_toInt_lt.mp h1) (by omega)
  · rw [if_neg h1]
    by_cases h2 : x = y
    · rw [if_pos h2]
      exact ⟨fun _ => h2, fun _ => rfl⟩
    · rw [if_neg h2]
      exact ⟨fun q => absurd q (by decide), fun q => absurd q h2⟩
theorem z64_t {n : Nat} (h : n < 4611686018427387904) : (Int64.ofNat n).toInt = n := Int64.toInt_ofNat_of_lt (by omega)
theorem z64_0 {n : Nat} (h : n < 4611686018427387904) : Int64.ofNat n = 0 ↔ n = 0 := by
  constructor
  · intro q
    have q2 := congrArg Int64.toInt q
    rw [z64_t h] at q2
    have e : (0 : Int64).toInt = 0 := rfl
    omega
  · intro q
    rw [q]; rfl
theorem z64_div {x y : Nat} (hx : x < 2147483648) (hy : y < 2147483648) : Int64.ofNat x / Int64.ofNat y = Int64.ofNat (x / y) := by
  apply Int64.toInt_inj.mp
  have h3 : x / y ≤ x := Nat.div_le_self x y
  rw [Int64.toInt_div_of_ne_right _ _ (fun q => by
    have q2 := congrArg Int64.toInt q
    rw [z64_t (by omega)] at q2
    have e : (-1 : Int64).toInt = -1 := rfl
    omega), z64_t (by omega), z64_t (by omega), z64_t (by omega), Int.ofNat_tdiv]
theorem z64_rem {x y : Nat} (hx : x < 2147483648) (hy : y < 2147483648) : Int64.ofNat x - Int64.ofNat x / Int64.ofNat y * Int64.ofNat y = Int64.ofNat (x % y) := by
  have h1 : y * (x / y) + x % y = x := Nat.div_add_mod x y
  rw [z64_div hx hy, ← Int64.ofNat_mul, ← Int64.ofNat_sub _ _ (by rw [Nat.mul_comm]; omega)]
  congr 1
  rw [Nat.mul_comm]
  omega
/-- Euclid's steps are enough -/
def gIv (j x y : Nat) : Prop := (y ≤ x ∧ x * y < 2 ^ j) ∨ (1 ≤ j ∧ x * y < 2 ^ (j - 1))
theorem gIv_0 {x y : Nat} (h : gIv 0 x y) : y = 0 := by
  rcases h with ⟨h1, h2⟩ | ⟨h1, _⟩
  · rcases Nat.eq_zero_or_pos y with e | e
    · exact e
    · have h3 : 1 * 1 ≤ x * y := Nat.mul_le_mul (by omega) e
      have h4 : 2 ^ 0 = 1 := rfl
      omega
  · omega
theorem gIv_s {j x y : Nat} (h : gIv (j + 1) x y) (hy : ¬ y = 0) : gIv j y (x % y) := by
  have hm : x % y < y := Nat.mod_lt x (by omega)
  refine Or.inl ⟨by omega, ?_⟩
  rcases h with ⟨h1, h2⟩ | ⟨_, h2⟩
  · have h3 : y * (x / y) + x % y = x := Nat.div_add_mod x y
    have h4 : 1 ≤ x / y := Nat.div_pos h1 (by omega)
    have h5 : y * 1 ≤ y * (x / y) := Nat.mul_le_mul_left y h4
    have h6 : 2 * (x % y) ≤ x := by omega
    have h7 : y * (2 * (x % y)) ≤ y * x := Nat.mul_le_mul_left y h6
    have h8 : y * (2 * (x % y)) = 2 * (y * (x % y)) := Nat.mul_left_comm y 2 (x % y)
    have h9 : y * x = x * y := Nat.mul_comm y x
    have h10 : 2 ^ (j + 1) = 2 ^ j * 2 := Nat.pow_succ 2 j
    omega
  · have h6 : x % y ≤ x := Nat.mod_le x y
    have h7 : y * (x % y) ≤ y * x := Nat.mul_le_mul_left y h6
    have h9 : y * x = x * y := Nat.mul_comm y x
    have h10 : j + 1 - 1 = j := by omega
    rw [h10] at h2
    omega
theorem gcd_s {x y : Nat} : Nat.gcd x y = Nat.gcd y (x % y) := by
  rw [Nat.gcd_comm x y, Nat.gcd_rec y x, Nat.gcd_comm]
theorem cd_loop {m : zM} {a b : Int64} : ∀ (j i x y d : Nat) (r : Option Value) (h' : zHp), i + j = 100 → x < 2147483648 → y < 2147483648 → gIv j x y → zE none d zm_X7_commonDivisor 9 [.long a, .null, .long b, .null, .long (Int64.ofNat x), .null, .long (Int64.ofNat y), .null, .int (Int32.ofNat i), .null, .null] [] m r h' → r = some (.long (Int64.ofNat (Nat.gcd x y))) ∧ h' = zhp m := by
  intro j
  induction j with
  | zero =>
    intro i x y d r h' hj hx hy hI H
    replace H := i_il (q := 11) H I_X7_commonDivisor_9 rfl rfl
    replace H := i_bip (x := 100) (q := 13) H I_X7_commonDivisor_11 (by decide) rfl
    have W := i_ic_ge (t := 44) (q := 16) H I_X7_commonDivisor_13 (by decide) rfl
    clear H
    rcases W with ⟨c_13, H⟩ | ⟨c_13, H⟩
    · skip
      replace H := i_ll (q := 46) H I_X7_commonDivisor_44 rfl rfl
      obtain ⟨hr, hh⟩ := i_lr H I_X7_commonDivisor_46
      rw [gIv_0 hI, Nat.gcd_zero_right]
      exact ⟨hr, hh⟩
    · exfalso
      exact absurd ((zofn_lt (j := 100) (by omega) (by decide)).mp c_13) (by omega)
  | succ j ih =>
    intro i x y d r h' hj hx hy hI H
    replace H := i_il (q := 11) H I_X7_commonDivisor_9 rfl rfl
    replace H := i_bip (x := 100) (q := 13) H I_X7_commonDivisor_11 (by decide) rfl
    have W := i_ic_ge (t := 44) (q := 16) H I_X7_commonDivisor_13 (by decide) rfl
    clear H
    rcases W with ⟨c_13, H⟩ | ⟨c_13, H⟩
    · exfalso
      exact c_13 ((zofn_lt (j := 100) (by omega) (by decide)).mpr (by omega))
    · skip
      replace H := i_ll (q := 18) H I_X7_commonDivisor_16 rfl rfl
      replace H := i_lcst (x := 0) (q := 19) H I_X7_commonDivisor_18 (by decide) rfl
      replace H := i_lcmp (q := 20) H I_X7_commonDivisor_19 rfl
      have W := i_if_eq (t := 44) (q := 23) H I_X7_commonDivisor_20 (by decide) rfl
      clear H
      rcases W with ⟨c_20, H⟩ | ⟨c_20, H⟩
      · skip
        replace H := i_ll (q := 46) H I_X7_commonDivisor_44 rfl rfl
        obtain ⟨hr, hh⟩ := i_lr H I_X7_commonDivisor_46
        rw [lgc_0] at c_20
        rw [(z64_0 (by omega)).mp c_20, Nat.gcd_zero_right]
        exact ⟨hr, hh⟩
      · skip
        replace H := i_ll (q := 25) H I_X7_commonDivisor_23 rfl rfl
        replace H := i_ll (q := 27) H I_X7_commonDivisor_25 rfl rfl
        have W := i_lrem (q := 28) H I_X7_commonDivisor_27 rfl
        clear H
        obtain ⟨z_27, H⟩ := W
        replace H := i_ls (q := 30) H I_X7_commonDivisor_28 rfl rfl
        replace H := i_ll (q := 32) H I_X7_commonDivisor_30 rfl rfl
        replace H := i_ls (q := 34) H I_X7_commonDivisor_32 rfl rfl
        replace H := i_ll (q := 36) H I_X7_commonDivisor_34 rfl rfl
        replace H := i_ls (q := 38) H I_X7_commonDivisor_36 rfl rfl
        replace H := i_inc (q := 41) H I_X7_commonDivisor_38 rfl rfl rfl
        replace H := i_goto (q := 9) H I_X7_commonDivisor_41 (by decide)
        rw [lgc_0] at c_20
        have hy0 : ¬ y = 0 := fun q => c_20 ((z64_0 (by omega)).mpr q)
        have hm : x % y < y := Nat.mod_lt x (by omega)
        rw [z64_rem hx hy] at H
        replace H := i_w [true, true, true, true, true, true, true, true, true, false, false] H
        replace H : zE none d zm_X7_commonDivisor 9 [.long a, .null, .long b, .null, .long (Int64.ofNat y), .null, .long (Int64.ofNat (x % y)), .null, .int (Int32.ofNat (i + 1)), .null, .null] [] m r h' := by
          rw [← zofn_s]
          exact H
        rw [gcd_s]
        exact ih (i + 1) y (x % y) d r h' (by omega) hy (by omega) (gIv_s hI hy0) H
theorem gIv_b {x y : Nat} (hx : x < 2147483648) (hy : y < 2147483648) : gIv 100 x y := by
  refine Or.inr ⟨by omega, ?_⟩
  have h1 : x * y ≤ 2147483648 * 2147483648 := Nat.mul_le_mul (by omega) (by omega)
  have h2 : 2147483648 * 2147483648 < 2 ^ (100 - 1) := by decide
  omega
theorem t_X7_commonDivisor {d : Nat} {m : zM} {r : Option Value} {h' : zHp} {x y : Nat} (hx : x < 2147483648) (hy : y < 2147483648) (H : zE none d zm_X7_commonDivisor 0 [.long (Int64.ofNat x), .null, .long (Int64.ofNat y), .null, .null, .null, .null, .null, .null, .null, .null] [] m r h') : r = some (.long (Int64.ofNat (Nat.gcd x y))) ∧ h' = zhp m := by
  replace H := i_lln (q := 1) H I_X7_commonDivisor_0 rfl rfl
  replace H := i_ls (q := 3) H I_X7_commonDivisor_1 rfl rfl
  replace H := i_lln (q := 4) H I_X7_commonDivisor_3 rfl rfl
  replace H := i_ls (q := 6) H I_X7_commonDivisor_4 rfl rfl
  replace H := i_icst (x := 0) (q := 7) H I_X7_commonDivisor_6 (by decide) rfl
  replace H := i_is (q := 9) H I_X7_commonDivisor_7 rfl rfl
  exact cd_loop 100 0 x y d r h' rfl hx hy (gIv_b hx hy) H
/-- a part of a fraction in lowest terms -/
def gFr (up down : Nat) (w : Int32) : Int64 := (if w = 0 then Int64.ofNat up else Int64.ofNat down) / Int64.ofNat (Nat.gcd up down)
theorem gcd_b {x y : Nat} (hy : 0 < y) (hy2 : y < 2147483648) : 0 < Nat.gcd y x ∧ Nat.gcd y x < 2147483648 := by
  have h1 := Nat.gcd_pos_of_pos_left x hy
  have h2 : Nat.gcd y x ≤ y := Nat.gcd_le_left x hy
  omega
theorem t_X7_partOfFraction {d : Nat} {m : zM} {r : Option Value} {h' : zHp} {up down : Nat} {w : Int32} (hu : up < 2147483648) (hd0 : 0 < down) (hd : down < 2147483648) (H : zE none d zm_X7_partOfFraction 0 [.long (Int64.ofNat up), .null, .long (Int64.ofNat down), .null, .int w, .null, .null, .null, .null] [] m r h') : r = some (.long (gFr up down w)) ∧ h' = zhp m := by
  replace H := i_lln (q := 1) H I_X7_partOfFraction_0 rfl rfl
  replace H := i_lln (q := 2) H I_X7_partOfFraction_1 rfl rfl
  have W := i_jcd (q := 5) H I_X7_partOfFraction_2 K_7_236 Zm_98 rfl
  clear H
  obtain ⟨r1, h1, Hc, K1⟩ := W
  obtain ⟨e1, e2⟩ := t_X7_commonDivisor hd hu Hc
  have H := K1 _ _ e1 e2
  clear e1 e2 Hc K1
  replace H := i_ls (q := 7) H I_X7_partOfFraction_5 rfl rfl
  replace H := i_il (q := 9) H I_X7_partOfFraction_7 rfl rfl
  have W := i_if_ne (t := 16) (q := 12) H I_X7_partOfFraction_9 (by decide) rfl
  clear H
  rcases W with ⟨c_9, H⟩ | ⟨c_9, H⟩
  · skip
    replace H := i_lln (q := 17) H I_X7_partOfFraction_16 rfl rfl
    replace H := i_ls (q := 19) H I_X7_partOfFraction_17 rfl rfl
    replace H := i_ll (q := 21) H I_X7_partOfFraction_19 rfl rfl
    replace H := i_lcst (x := 0) (q := 22) H I_X7_partOfFraction_21 (by decide) rfl
    replace H := i_lcmp (q := 23) H I_X7_partOfFraction_22 rfl
    have W := i_if_ne (t := 31) (q := 26) H I_X7_partOfFraction_23 (by decide) rfl
    clear H
    rcases W with ⟨c_23, H⟩ | ⟨c_23, H⟩
    · skip
      replace H := i_ll (q := 33) H I_X7_partOfFraction_31 rfl rfl
      replace H := i_ll (q := 35) H I_X7_partOfFraction_33 rfl rfl
      have W := i_ldiv (q := 36) H I_X7_partOfFraction_35 rfl
      clear H
      obtain ⟨z_35, H⟩ := W
      obtain ⟨hr, hh⟩ := i_lr H I_X7_partOfFraction_36
      exact ⟨hr.trans (by rw [gFr, if_neg c_9, Nat.gcd_comm up down]), hh⟩
    · skip
      replace H := i_ll (q := 28) H I_X7_partOfFraction_26 rfl rfl
      replace H := i_goto (q := 36) H I_X7_partOfFraction_28 (by decide)
      obtain ⟨hr, hh⟩ := i_lr H I_X7_partOfFraction_36
      obtain ⟨g1, g2⟩ := gcd_b (x := up) hd0 hd
      rw [lgc_0] at c_23
      exact absurd ((z64_0 (by omega)).mp c_23) (by omega)
  · skip
    replace H := i_lln (q := 13) H I_X7_partOfFraction_12 rfl rfl
    replace H := i_goto (q := 17) H I_X7_partOfFraction_13 (by decide)
    replace H := i_ls (q := 19) H I_X7_partOfFraction_17 rfl rfl
    replace H := i_ll (q := 21) H I_X7_partOfFraction_19 rfl rfl
    replace H := i_lcst (x := 0) (q := 22) H I_X7_partOfFraction_21 (by decide) rfl
    replace H := i_lcmp (q := 23) H I_X7_partOfFraction_22 rfl
    have W := i_if_ne (t := 31) (q := 26) H I_X7_partOfFraction_23 (by decide) rfl
    clear H
    rcases W with ⟨c_23, H⟩ | ⟨c_23, H⟩
    · skip
      replace H := i_ll (q := 33) H I_X7_partOfFraction_31 rfl rfl
      replace H := i_ll (q := 35) H I_X7_partOfFraction_33 rfl rfl
      have W := i_ldiv (q := 36) H I_X7_partOfFraction_35 rfl
      clear H
      obtain ⟨z_35, H⟩ := W
      obtain ⟨hr, hh⟩ := i_lr H I_X7_partOfFraction_36
      exact ⟨hr.trans (by rw [gFr, if_pos c_9, Nat.gcd_comm up down]), hh⟩
    · skip
      replace H := i_ll (q := 28) H I_X7_partOfFraction_26 rfl rfl
      replace H := i_goto (q := 36) H I_X7_partOfFraction_28 (by decide)
      obtain ⟨hr, hh⟩ := i_lr H I_X7_partOfFraction_36
      obtain ⟨g1, g2⟩ := gcd_b (x := up) hd0 hd
      rw [lgc_0] at c_23
      exact absurd ((z64_0 (by omega)).mp c_23) (by omega)
theorem lw_loop2 {d : Nat} {m : zM} {a b : Int64} {w : Int32} (y : Nat) : ∀ (x : Nat) (r : Option Value) (h' : zHp), x < 2147483648 → y < 2147483648 → zE none d zm_X8_lowest 6 [.long a, .null, .long b, .null, .int w, .long (Int64.ofNat x), .null, .long (Int64.ofNat y), .null, .null, .null] [] m r h' → zE none d zm_X8_lowest 31 [.long a, .null, .long b, .null, .int w, .long (Int64.ofNat (Nat.gcd x y)), .null, .null, .null, .null, .null] [] m r h' := by
  induction y using Nat.strongRecOn with
  | ind y ih =>
    intro x r h' hx hy H
    replace H := i_ll (q := 8) H I_X8_lowest_6 rfl rfl
    replace H := i_lcst (x := 0) (q := 9) H I_X8_lowest_8 (by decide) rfl
    replace H := i_lcmp (q := 10) H I_X8_lowest_9 rfl
    have W := i_if_eq (t := 31) (q := 13) H I_X8_lowest_10 (by decide) rfl
    clear H
    rcases W with ⟨c_10, H⟩ | ⟨c_10, H⟩
    · skip
      rw [lgc_0] at c_10
      rw [(z64_0 (by omega)).mp c_10, Nat.gcd_zero_right]
      exact i_w [true, true, true, true, true, true, true, false, false, false, false] H
    · skip
      replace H := i_ll (q := 15) H I_X8_lowest_13 rfl rfl
      replace H := i_ll (q := 17) H I_X8_lowest_15 rfl rfl
      have W := i_lrem (q := 18) H I_X8_lowest_17 rfl
      clear H
      obtain ⟨z_17, H⟩ := W
      replace H := i_ls (q := 20) H I_X8_lowest_18 rfl rfl
      replace H := i_ll (q := 22) H I_X8_lowest_20 rfl rfl
      replace H := i_ls (q := 24) H I_X8_lowest_22 rfl rfl
      replace H := i_ll (q := 26) H I_X8_lowest_24 rfl rfl
      replace H := i_ls (q := 28) H I_X8_lowest_26 rfl rfl
      replace H := i_goto (q := 6) H I_X8_lowest_28 (by decide)
      rw [lgc_0] at c_10
      have hy0 : ¬ y = 0 := fun q => c_10 ((z64_0 (by omega)).mpr q)
      have hm : x % y < y := Nat.mod_lt x (by omega)
      rw [z64_rem hx hy] at H
      replace H := i_w [true, true, true, true, true, true, true, true, true, false, false] H
      rw [gcd_s]
      exact ih (x % y) hm y r h' hy (by omega) H
theorem t_X8_lowest {d : Nat} {m : zM} {r : Option Value} {h' : zHp} {up down : Nat} {w : Int32} (hu : up < 2147483648) (hd : down < 2147483648) (H : zE none d zm_X8_lowest 0 [.long (Int64.ofNat up), .null, .long (Int64.ofNat down), .null, .int w, .null, .null, .null, .null, .null, .null] [] m r h') : r = some (.long (gFr up down w)) ∧ h' = zhp m := by
  replace H := i_lln (q := 1) H I_X8_lowest_0 rfl rfl
  replace H := i_ls (q := 3) H I_X8_lowest_1 rfl rfl
  replace H := i_lln (q := 4) H I_X8_lowest_3 rfl rfl
  replace H := i_ls (q := 6) H I_X8_lowest_4 rfl rfl
  replace H := lw_loop2 down up r h' hu hd H
  replace H := i_il (q := 33) H I_X8_lowest_31 rfl rfl
  have W := i_if_ne (t := 40) (q := 36) H I_X8_lowest_33 (by decide) rfl
  clear H
  rcases W with ⟨c_33, H⟩ | ⟨c_33, H⟩
  · skip
    replace H := i_lln (q := 41) H I_X8_lowest_40 rfl rfl
    replace H := i_ll (q := 43) H I_X8_lowest_41 rfl rfl
    have W := i_ldiv (q := 44) H I_X8_lowest_43 rfl
    clear H
    obtain ⟨z_43, H⟩ := W
    obtain ⟨hr, hh⟩ := i_lr H I_X8_lowest_44
    exact ⟨hr.trans (by rw [gFr, if_neg c_33]), hh⟩
  · skip
    replace H := i_lln (q := 37) H I_X8_lowest_36 rfl rfl
    replace H := i_goto (q := 41) H I_X8_lowest_37 (by decide)
    replace H := i_ll (q := 43) H I_X8_lowest_41 rfl rfl
    have W := i_ldiv (q := 44) H I_X8_lowest_43 rfl
    clear H
    obtain ⟨z_43, H⟩ := W
    obtain ⟨hr, hh⟩ := i_lr H I_X8_lowest_44
    exact ⟨hr.trans (by rw [gFr, if_pos c_33]), hh⟩
def gOd (v : Int32) (a : Nat) : Nat → Int64
  | 0 => 1
  | n + 1 => gOd v a n * (if zbt (Int32.ofNat a) n = 0 then (10 - v).toInt64 else v.toInt64)
def gAl : Nat → Int64
  | 0 => 1
  | n + 1 => gAl n * 10
def gOn (v a : Nat) : Nat → Nat
  | 0 => 1
  | n + 1 => gOn v a n * (if zbt (Int32.ofNat a) n = 0 then 10 - v else v)
theorem gOn_b {v a : Nat} (hv : v ≤ 10) : ∀ n, gOn v a n ≤ 10 ^ n
  | 0 => Nat.le_refl 1
  | n + 1 => by
    rw [gOn, Nat.pow_succ]
    exact Nat.mul_le_mul (gOn_b hv n) (by split <;> omega)
theorem z_3264 {n : Nat} (h : n ≤ 1000) : (Int32.ofNat n).toInt64 = Int64.ofNat n := by
  apply Int64.toInt_inj.mp
  rw [Int32.toInt_toInt64, zofn_t (by omega), z64_t (by omega)]
theorem gOd_n {v a : Nat} (hv : v ≤ 10) : ∀ n, gOd (Int32.ofNat v) a n = Int64.ofNat (gOn v a n)
  | 0 => rfl
  | n + 1 => by
    rw [gOd, gOn, gOd_n hv n, Int64.ofNat_mul]
    congr 1
    split
    · rw [show (10 : Int32) = Int32.ofNat 10 from rfl, ← zofn_sub (by omega), z_3264 (by omega)]
    · rw [z_3264 (by omega)]
theorem gAl_n : ∀ n, gAl n = Int64.ofNat (10 ^ n)
  | 0 => rfl
  | n + 1 => by
    rw [gAl, gAl_n n, Nat.pow_succ, Int64.ofNat_mul]
    rfl
/-- the plan, some away -/
def gPa (c : Nat) (g : Nat → Int32) (x : Int32) : zPy := pPlays c (31 &&& (x ^^^ -1)) (zna g) 0 (zPy0 g)
theorem z_31k : ∀ k, k < 32 → Int32.ofNat k &&& 31 = Int32.ofNat k := by decide
theorem gPa_m {c a : Nat} {x : Int32} {g : Nat → Int32} (h : gok g c) (hp : gpl g) (ha : g 26 = Int32.ofNat a) (ha8 : a ≤ 8) : pPlays c (x ^^^ -1) (zna g) 0 (zPy0 g) = gPa c g x := by
  have hz : zna g ≤ 8 := by
    unfold zna
    rw [ha, Int32.toNatClampNeg_ofNat_of_lt (by omega)]
    exact ha8
  exact pPlays_m (fun k hk => by rw [← Int32.and_assoc, z_31k k hk]) (zna g) 0 (zPy0 g) h hp (by omega)
theorem pAct_n {c i : Nat} {mk : Int32} {P : zPy} {k : Nat} (h : P.2.1 = Int32.ofNat k) : ∃ u, u ≤ k + 1 ∧ (pAct c mk i P).2.1 = Int32.ofNat u := by
  unfold pAct
  split
  · exact ⟨k, by omega, h⟩
  · split
    · exact ⟨k, by omega, h⟩
    · show ∃ u, u ≤ k + 1 ∧ (if gTry1 P.1 c (P.1 (18 + i) &&& mk) = -4 then P.2.1 else P.2.1 + 1) = Int32.ofNat u
      split
      · exact ⟨k, by omega, h⟩
      · exact ⟨k + 1, by omega, by rw [h, zofn_1]⟩
theorem pPlays_n {c : Nat} {mk : Int32} : ∀ (n i : Nat) (P : zPy) (k : Nat), P.2.1 = Int32.ofNat k → ∃ u, u ≤ k + n ∧ (pPlays c mk n i P).2.1 = Int32.ofNat u
  | 0, _, _, k, h => ⟨k, by omega, h⟩
  | n + 1, i, P, k, h => by
    obtain ⟨u, u1, u2⟩ := pAct_n (c := c) (i := i) (mk := mk) h
    obtain ⟨w, w1, w2⟩ := pPlays_n n (i + 1) (pAct c mk i P) u u2
    exact ⟨w, by omega, w2⟩
theorem gPa_n {c a : Nat} {x : Int32} {g : Nat → Int32} (ha : g 26 = Int32.ofNat a) (ha8 : a ≤ 8) : ∃ u, u ≤ 8 ∧ (gPa c g x).2.1 = Int32.ofNat u := by
  have hz : zna g ≤ 8 := by
    unfold zna
    rw [ha, Int32.toNatClampNeg_ofNat_of_lt (by omega)]
    exact ha8
  obtain ⟨u, u1, u2⟩ := pPlays_n (c := c) (mk := 31 &&& (x ^^^ -1)) (zna g) 0 (zPy0 g) 0 rfl
  exact ⟨u, by omega, u2⟩
/-- whom is asked for: -4 all, else one -/
def gVl (c : Nat) (g : Nat → Int32) (y : Int32) (a : Nat) : Int32 := if y = -4 then (gPa c g (Int32.ofNat a)).2.1 else ((gPa c g (Int32.ofNat a)).2.2.1 >>> (y &&& 31)) &&& 1
theorem gVl_n {c a e : Nat} {y : Int32} {g : Nat → Int32} (ha : g 26 = Int32.ofNat a) (ha8 : a ≤ 8) : ∃ u, u ≤ 8 ∧ gVl c g y e = Int32.ofNat u := by
  unfold gVl
  split
  · exact gPa_n ha ha8
  · rcases zbt01 ((gPa c g (Int32.ofNat e)).2.2.1 >>> (y &&& 31)) with h | h
    · exact ⟨0, by omega, h⟩
    · exact ⟨1, by omega, h⟩
def gSm (t : Nat → Int64) : Nat → Nat → Int64 → Int64
  | 0, _, s => s
  | j + 1, i, s => gSm t j (i + 1) (s + t i)
def gTm (c : Nat) (g : Nat → Int32) (v y : Int32) (a : Nat) : Int64 := gOd v a c * (gVl c g y a).toInt64
theorem gSm_n {t : Nat → Int64} {B : Nat} (ht : ∀ i, ∃ u, u ≤ B ∧ t i = Int64.ofNat u) : ∀ (j i k : Nat), ∃ u, u ≤ k + j * B ∧ gSm t j i (Int64.ofNat k) = Int64.ofNat u
  | 0, i, k => ⟨k, by omega, rfl⟩
  | j + 1, i, k => by
    obtain ⟨x, x1, x2⟩ := ht i
    obtain ⟨u, u1, u2⟩ := gSm_n ht j (i + 1) (k + x)
    refine ⟨u, ?_, ?_⟩
    · rw [Nat.succ_mul]; omega
    · rw [gSm, x2, ← Int64.ofNat_add]; exact u2
theorem gTm_n {c a v : Nat} {y : Int32} {g : Nat → Int32} (hv : v ≤ 10) (hc : c ≤ 5) (ha : g 26 = Int32.ofNat a) (ha8 : a ≤ 8) (i : Nat) : ∃ u, u ≤ 800000 ∧ gTm c g (Int32.ofNat v) y i = Int64.ofNat u := by
  obtain ⟨u, u1, u2⟩ := gVl_n (c := c) (y := y) (e := i) ha ha8
  refine ⟨gOn v i c * u, ?_, ?_⟩
  · have h1 := gOn_b (a := i) hv c
    have h2 : 10 ^ c ≤ 10 ^ 5 := Nat.pow_le_pow_right (by omega) hc
    have h3 : gOn v i c * u ≤ 100000 * 8 := Nat.mul_le_mul (by omega) u1
    omega
  · rw [gTm, u2, gOd_n hv, z_3264 (by omega), ← Int64.ofNat_mul]
theorem gSm_all {c a v : Nat} {y : Int32} {g : Nat → Int32} (hv : v ≤ 10) (hc : c ≤ 5) (ha : g 26 = Int32.ofNat a) (ha8 : a ≤ 8) : ∃ u, u < 2147483648 ∧ gSm (gTm c g (Int32.ofNat v) y) (2 ^ c) 0 0 = Int64.ofNat u := by
  obtain ⟨u, u1, u2⟩ := gSm_n (gTm_n (y := y) hv hc ha ha8) (2 ^ c) 0 0
  obtain ⟨_, e2, _⟩ := zsh_c c hc
  have h3 : 2 ^ c * 800000 ≤ 32 * 800000 := Nat.mul_le_mul_right _ e2
  exact ⟨u, by omega, u2⟩
theorem gAl_b {c : Nat} (hc : c ≤ 5) : 0 < 10 ^ c ∧ 10 ^ c < 2147483648 := by
  have h1 : 10 ^ c ≤ 10 ^ 5 := Nat.pow_le_pow_right (by omega) hc
  have h2 : 0 < 10 ^ c := Nat.pow_pos (by omega)
  omega
theorem od_loop {m : zM} {c a : Nat} {v : Int32} (hc : m 11 2 = Int32.ofNat c) (hc5 : c ≤ 5) : ∀ (j i d : Nat) (r : Option Value) (h' : zHp), i + j = c → zE none d zm_X7_odds 5 [.ref 0, .int (Int32.ofNat a), .int v, .long (gOd v a i), .null, .int (Int32.ofNat i)] [] m r h' → r = some (.long (gOd v a c)) ∧ h' = zhp m := by
  intro j
  induction j with
  | zero =>
    intro i d r h' hj H
    replace H := i_il (q := 7) H I_X7_odds_5 rfl rfl
    replace H := i_aln (q := 8) H I_X7_odds_7 rfl rfl
    replace H := i_gfr (q := 11) H I_X7_odds_8 G_7_19 cn_X7_odds LY_0 rfl rfl
    replace H := i_gfi (q := 14) H I_X7_odds_11 G_7_90 cn_X7_odds LY_11 rfl rfl
    have W := i_ic_ge (t := 45) (q := 17) H I_X7_odds_14 (by decide) rfl
    clear H
    rcases W with ⟨c_14, H⟩ | ⟨c_14, H⟩
    · skip
      replace H := i_lln (q := 46) H I_X7_odds_45 rfl rfl
      obtain ⟨hr, hh⟩ := i_lr H I_X7_odds_46
      have e : i = c := by omega
      subst e
      exact ⟨hr, hh⟩
    · exfalso
      rw [hc] at c_14
      exact absurd ((zofn_lt (by omega) (by omega)).mp c_14) (by omega)
  | succ j ih =>
    intro i d r h' hj H
    replace H := i_il (q := 7) H I_X7_odds_5 rfl rfl
    replace H := i_aln (q := 8) H I_X7_odds_7 rfl rfl
    replace H := i_gfr (q := 11) H I_X7_odds_8 G_7_19 cn_X7_odds LY_0 rfl rfl
    replace H := i_gfi (q := 14) H I_X7_odds_11 G_7_90 cn_X7_odds LY_11 rfl rfl
    have W := i_ic_ge (t := 45) (q := 17) H I_X7_odds_14 (by decide) rfl
    clear H
    rcases W with ⟨c_14, H⟩ | ⟨c_14, H⟩
    · exfalso
      rw [hc] at c_14
      exact c_14 ((zofn_lt (by omega) (by omega)).mpr (by omega))
    · skip
      replace H := i_lln (q := 18) H I_X7_odds_17 rfl rfl
      replace H := i_iln (q := 19) H I_X7_odds_18 rfl rfl
      replace H := i_il (q := 21) H I_X7_odds_19 rfl rfl
      replace H := i_ishr (q := 22) H I_X7_odds_21 rfl
      replace H := i_icst (x := 1) (q := 23) H I_X7_odds_22 (by decide) rfl
      replace H := i_iand (q := 24) H I_X7_odds_23 rfl
      have W := i_if_eq (t := 32) (q := 27) H I_X7_odds_24 (by decide) rfl
      clear H
      rcases W with ⟨c_24, H⟩ | ⟨c_24, H⟩
      · skip
        replace H := i_bip (x := 10) (q := 34) H I_X7_odds_32 (by decide) rfl
        replace H := i_iln (q := 35) H I_X7_odds_34 rfl rfl
        replace H := i_isub (q := 36) H I_X7_odds_35 rfl
        replace H := i_i2l (q := 37) H I_X7_odds_36 rfl
        replace H := i_lmul (q := 38) H I_X7_odds_37 rfl
        replace H := i_lsn (q := 39) H I_X7_odds_38 rfl rfl
        replace H := i_inc (q := 42) H I_X7_odds_39 rfl rfl rfl
        replace H := i_goto (q := 5) H I_X7_odds_42 (by decide)
        have c24 :  zbt (Int32.ofNat a) i = 0 := c_24
        replace H : zE none d zm_X7_odds 5 [.ref 0, .int (Int32.ofNat a), .int v, .long (gOd v a (i + 1)), .null, .int (Int32.ofNat (i + 1))] [] m r h' := by
          rw [gOd, if_pos c24, ← zofn_s]
          exact H
        exact ih (i + 1) d r h' (by omega) H
      · skip
        replace H := i_iln (q := 28) H I_X7_odds_27 rfl rfl
        replace H := i_i2l (q := 29) H I_X7_odds_28 rfl
        replace H := i_goto (q := 37) H I_X7_odds_29 (by decide)
        replace H := i_lmul (q := 38) H I_X7_odds_37 rfl
        replace H := i_lsn (q := 39) H I_X7_odds_38 rfl rfl
        replace H := i_inc (q := 42) H I_X7_odds_39 rfl rfl rfl
        replace H := i_goto (q := 5) H I_X7_odds_42 (by decide)
        have c24 : ¬ zbt (Int32.ofNat a) i = 0 := c_24
        replace H : zE none d zm_X7_odds 5 [.ref 0, .int (Int32.ofNat a), .int v, .long (gOd v a (i + 1)), .null, .int (Int32.ofNat (i + 1))] [] m r h' := by
          rw [gOd, if_neg c24, ← zofn_s]
          exact H
        exact ih (i + 1) d r h' (by omega) H
theorem t_X7_odds {d : Nat} {m : zM} {r : Option Value} {h' : zHp} {c a : Nat} {v : Int32} (hc : m 11 2 = Int32.ofNat c) (hc5 : c ≤ 5) (H : zE none d zm_X7_odds 0 [.ref 0, .int (Int32.ofNat a), .int v, .null, .null, .null] [] m r h') : r = some (.long (gOd v a c)) ∧ h' = zhp m := by
  replace H := i_lcst (x := 1) (q := 1) H I_X7_odds_0 (by decide) rfl
  replace H := i_lsn (q := 2) H I_X7_odds_1 rfl rfl
  replace H := i_icst (x := 0) (q := 3) H I_X7_odds_2 (by decide) rfl
  replace H := i_is (q := 5) H I_X7_odds_3 rfl rfl
  exact od_loop hc hc5 c 0 d r h' (by omega) H
theorem ao_loop {m : zM} {c : Nat} (hc : m 11 2 = Int32.ofNat c) (hc5 : c ≤ 5) : ∀ (j i d : Nat) (r : Option Value) (h' : zHp), i + j = c → zE none d zm_X7_allOdds 4 [.ref 0, .long (gAl i), .null, .int (Int32.ofNat i)] [] m r h' → r = some (.long (gAl c)) ∧ h' = zhp m := by
  intro j
  induction j with
  | zero =>
    intro i d r h' hj H
    replace H := i_iln (q := 5) H I_X7_allOdds_4 rfl rfl
    replace H := i_aln (q := 6) H I_X7_allOdds_5 rfl rfl
    replace H := i_gfr (q := 9) H I_X7_allOdds_6 G_7_19 cn_X7_allOdds LY_0 rfl rfl
    replace H := i_gfi (q := 12) H I_X7_allOdds_9 G_7_90 cn_X7_allOdds LY_11 rfl rfl
    have W := i_ic_ge (t := 27) (q := 15) H I_X7_allOdds_12 (by decide) rfl
    clear H
    rcases W with ⟨c_12, H⟩ | ⟨c_12, H⟩
    · skip
      replace H := i_lln (q := 28) H I_X7_allOdds_27 rfl rfl
      obtain ⟨hr, hh⟩ := i_lr H I_X7_allOdds_28
      have e : i = c := by omega
      subst e
      exact ⟨hr, hh⟩
    · exfalso
      rw [hc] at c_12
      exact absurd ((zofn_lt (by omega) (by omega)).mp c_12) (by omega)
  | succ j ih =>
    intro i d r h' hj H
    replace H := i_iln (q := 5) H I_X7_allOdds_4 rfl rfl
    replace H := i_aln (q := 6) H I_X7_allOdds_5 rfl rfl
    replace H := i_gfr (q := 9) H I_X7_allOdds_6 G_7_19 cn_X7_allOdds LY_0 rfl rfl
    replace H := i_gfi (q := 12) H I_X7_allOdds_9 G_7_90 cn_X7_allOdds LY_11 rfl rfl
    have W := i_ic_ge (t := 27) (q := 15) H I_X7_allOdds_12 (by decide) rfl
    clear H
    rcases W with ⟨c_12, H⟩ | ⟨c_12, H⟩
    · exfalso
      rw [hc] at c_12
      exact c_12 ((zofn_lt (by omega) (by omega)).mpr (by omega))
    · skip
      replace H := i_lln (q := 16) H I_X7_allOdds_15 rfl rfl
      replace H := i_ldc2 (x := 10) (q := 19) H I_X7_allOdds_16 J_7_234 (by decide) rfl
      replace H := i_lmul (q := 20) H I_X7_allOdds_19 rfl
      replace H := i_lsn (q := 21) H I_X7_allOdds_20 rfl rfl
      replace H := i_inc (q := 24) H I_X7_allOdds_21 rfl rfl rfl
      replace H := i_goto (q := 4) H I_X7_allOdds_24 (by decide)
      replace H : zE none d zm_X7_allOdds 4 [.ref 0, .long (gAl (i + 1)), .null, .int (Int32.ofNat (i + 1))] [] m r h' := by
        rw [gAl, ← zofn_s]
        exact H
      exact ih (i + 1) d r h' (by omega) H
theorem t_X7_allOdds {d : Nat} {m : zM} {r : Option Value} {h' : zHp} {c : Nat} (hc : m 11 2 = Int32.ofNat c) (hc5 : c ≤ 5) (H : zE none d zm_X7_allOdds 0 [.ref 0, .null, .null, .null] [] m r h') : r = some (.long (gAl c)) ∧ h' = zhp m := by
  replace H := i_lcst (x := 1) (q := 1) H I_X7_allOdds_0 (by decide) rfl
  replace H := i_lsn (q := 2) H I_X7_allOdds_1 rfl rfl
  replace H := i_icst (x := 0) (q := 3) H I_X7_allOdds_2 (by decide) rfl
  replace H := i_isn (q := 4) H I_X7_allOdds_3 rfl rfl
  exact ao_loop hc hc5 c 0 d r h' (by omega) H
theorem t_X7_rehearseWithout {d : Nat} {m : zM} {r : Option Value} {h' : zHp} {x : Int32} {c : Nat} {g : Nat → Int32} (hL : LV m 11 c g) (hg : gok g c) (H : zE none d zm_X7_rehearseWithout 0 [.ref 0, .int x] [] m r h') : ∃ m1, r = some (.int (gPa c g x).2.1) ∧ h' = zhp m1 ∧ cP m1 c (gPa c g x) ∧ ∀ a b, ¬ (19 ≤ a ∧ a ≤ 28) → m1 a b = m a b := by
  have hL0 := hL
  obtain ⟨l1, l2, l3, l4, l5, a, l6, l7, l8, l9⟩ := hL
  replace H := i_aln (q := 1) H I_X7_rehearseWithout_0 rfl rfl
  replace H := i_gfr (q := 4) H I_X7_rehearseWithout_1 G_7_26 cn_X7_rehearseWithout LY_0 rfl rfl
  replace H := i_gfr (q := 7) H I_X7_rehearseWithout_4 G_7_173 cn_X7_rehearseWithout LY_19 rfl rfl
  replace H := i_aln (q := 8) H I_X7_rehearseWithout_7 rfl rfl
  replace H := i_gfr (q := 11) H I_X7_rehearseWithout_8 G_7_19 cn_X7_rehearseWithout LY_0 rfl rfl
  have W := i_cv1 1 (q := 14) H I_X7_rehearseWithout_11 K_7_77 Zm_2 rfl rfl
  clear H
  obtain ⟨r1, h1, Hc, K1, K2⟩ := W
  obtain ⟨M_11, e1, e2, F_11⟩ := t_become lkk_20 lkk_11 (by omega) l1 l2 l8 l6 Hc
  have H := K2 _ e1 e2
  clear e1 e2 Hc K1 K2
  replace H := i_aln (q := 15) H I_X7_rehearseWithout_14 rfl rfl
  replace H := i_gfr (q := 18) H I_X7_rehearseWithout_15 G_7_26 cn_X7_rehearseWithout LY_0 rfl rfl
  replace H := i_bip (x := 31) (q := 20) H I_X7_rehearseWithout_18 (by decide) rfl
  replace H := i_iln (q := 21) H I_X7_rehearseWithout_20 rfl rfl
  replace H := i_icst (x := (-1)) (q := 22) H I_X7_rehearseWithout_21 (by decide) rfl
  replace H := i_ixor (q := 23) H I_X7_rehearseWithout_22 rfl
  replace H := i_iand (q := 24) H I_X7_rehearseWithout_23 rfl
  have W := i_cv1 2 (q := 27) H I_X7_rehearseWithout_24 K_7_179 Zm_44 rfl rfl
  clear H
  obtain ⟨r1, h1, Hc, K1, K2⟩ := W
  obtain ⟨M_24, e1, e2, F_24⟩ := t_X3_play (LV_b hL0 l8 l6 F_11) hg Hc
  have H := K1 _ _ e1 e2
  clear e1 e2 Hc K1 K2
  obtain ⟨hr, hh⟩ := i_ir H I_X7_rehearseWithout_27
  exact ⟨M_24, hr, hh, F_24.1, fun a b hab => (F_24.2 a b hab).trans (F_11.2.2.2.2.2.2 a b (by omega))⟩
theorem me_7 {c u : Nat} {v w : Int32} {g : Nat → Int32} (hg : gok g c) (u1 : u < 2147483648) : ∀ (j i : Nat) (s : Int64) (d : Nat) (r : Option Value) (h' : zHp) (m : zM), i + j = 2 ^ c → LV m 11 c g → gSm (gTm c g v (-4)) j i s = Int64.ofNat u → zE none d zm_X7_mean 28 [.ref 0, .int v, .int w, .long s, .null, .int (Int32.ofNat i)] [] m r h' → r = some (.long (gFr u (10 ^ c) w)) := by
  intro j
  induction j with
  | zero =>
    intro i s d r h' m hj hL hu H
    obtain ⟨e1, e2, e3⟩ := zsh_c c hg.1
    replace H := i_il (q := 30) H I_X7_mean_28 rfl rfl
    replace H := i_icst (x := 1) (q := 31) H I_X7_mean_30 (by decide) rfl
    replace H := i_aln (q := 32) H I_X7_mean_31 rfl rfl
    replace H := i_gfr (q := 35) H I_X7_mean_32 G_7_19 cn_X7_mean LY_0 rfl rfl
    replace H := i_gfi (q := 38) H I_X7_mean_35 G_7_90 cn_X7_mean LY_11 rfl rfl
    replace H := i_ishl (q := 39) H I_X7_mean_38 rfl
    have W := i_ic_ge (t := 66) (q := 42) H I_X7_mean_39 (by decide) rfl
    clear H
    rcases W with ⟨c_39, H⟩ | ⟨c_39, H⟩
    · skip
      replace H := i_lln (q := 67) H I_X7_mean_66 rfl rfl
      replace H := i_aln (q := 68) H I_X7_mean_67 rfl rfl
      have W := i_cv0 3 (q := 71) H I_X7_mean_68 K_7_226 Zm_96 rfl rfl
      clear H
      obtain ⟨r1, h1, Hc, K1, K2⟩ := W
      obtain ⟨e1, e2⟩ := t_X7_allOdds hL.1 hL.2.1 Hc
      have H := K1 _ _ e1 e2
      clear e1 e2 Hc K1 K2
      replace H := i_iln (q := 72) H I_X7_mean_71 rfl rfl
      have hu0 : s = Int64.ofNat u := hu
      rw [hu0, gAl_n] at H
      have W := i_jpf (q := 75) H I_X7_mean_72 K_7_230 Zm_97 rfl
      clear H
      obtain ⟨r1, h1, Hc, K1⟩ := W
      obtain ⟨e1, e2⟩ := t_X7_partOfFraction u1 (gAl_b hg.1).1 (gAl_b hg.1).2 Hc
      have H := K1 _ _ e1 e2
      clear e1 e2 Hc K1
      obtain ⟨hr, hh⟩ := i_lr H I_X7_mean_75
      exact hr
    · exfalso
      rw [hL.1, e1] at c_39
      exact absurd ((zofn_lt (by omega) (by omega)).mp c_39) (by omega)
  | succ j ih =>
    intro i s d r h' m hj hL hu H
    obtain ⟨e1, e2, e3⟩ := zsh_c c hg.1
    replace H := i_il (q := 30) H I_X7_mean_28 rfl rfl
    replace H := i_icst (x := 1) (q := 31) H I_X7_mean_30 (by decide) rfl
    replace H := i_aln (q := 32) H I_X7_mean_31 rfl rfl
    replace H := i_gfr (q := 35) H I_X7_mean_32 G_7_19 cn_X7_mean LY_0 rfl rfl
    replace H := i_gfi (q := 38) H I_X7_mean_35 G_7_90 cn_X7_mean LY_11 rfl rfl
    replace H := i_ishl (q := 39) H I_X7_mean_38 rfl
    have W := i_ic_ge (t := 66) (q := 42) H I_X7_mean_39 (by decide) rfl
    clear H
    rcases W with ⟨c_39, H⟩ | ⟨c_39, H⟩
    · exfalso
      rw [hL.1, e1] at c_39
      exact c_39 ((zofn_lt (by omega) (by omega)).mpr (by omega))
    · skip
      replace H := i_lln (q := 43) H I_X7_mean_42 rfl rfl
      replace H := i_aln (q := 44) H I_X7_mean_43 rfl rfl
      replace H := i_il (q := 46) H I_X7_mean_44 rfl rfl
      replace H := i_iln (q := 47) H I_X7_mean_46 rfl rfl
      have W := i_cv2 3 (q := 50) H I_X7_mean_47 K_7_219 Zm_95 rfl rfl
      clear H
      obtain ⟨r1, h1, Hc, K1, K2⟩ := W
      obtain ⟨e1, e2⟩ := t_X7_odds hL.1 hL.2.1 Hc
      have H := K1 _ _ e1 e2
      clear e1 e2 Hc K1 K2
      replace H := i_aln (q := 51) H I_X7_mean_50 rfl rfl
      replace H := i_il (q := 53) H I_X7_mean_51 rfl rfl
      have W := i_cv1 0 (q := 56) H I_X7_mean_53 K_7_223 Zm_94 rfl rfl
      clear H
      obtain ⟨r1, h1, Hc, K1, K2⟩ := W
      obtain ⟨M_53, e1, e2, F_53⟩ := t_X7_rehearseWithout hL hg Hc
      have H := K1 _ _ e1 e2
      clear e1 e2 Hc K1 K2
      replace H := i_i2l (q := 57) H I_X7_mean_56 rfl
      replace H := i_lmul (q := 58) H I_X7_mean_57 rfl
      replace H := i_ladd (q := 59) H I_X7_mean_58 rfl
      replace H := i_lsn (q := 60) H I_X7_mean_59 rfl rfl
      replace H := i_inc (q := 63) H I_X7_mean_60 rfl rfl rfl
      replace H := i_goto (q := 28) H I_X7_mean_63 (by decide)
      replace H : zE none d zm_X7_mean 28 [.ref 0, .int v, .int w, .long (s + gTm c g v (-4) i), .null, .int (Int32.ofNat (i + 1))] [] M_53 r h' := by
        rw [← zofn_s]
        exact H
      exact ih (i + 1) _ d r h' M_53 (by omega) (LV_f hL (fun a b h1 h2 => F_53.2 a b (by omega))) hu H
def gMe (c : Nat) (g : Nat → Int32) (v y w : Int32) : Int64 := gFr (gSm (gTm c g v y) (2 ^ c) 0 0).toInt.toNat (10 ^ c) w
theorem gMe_u {c u : Nat} {g : Nat → Int32} {v y w : Int32} (h : gSm (gTm c g v y) (2 ^ c) 0 0 = Int64.ofNat u) (hu : u < 2147483648) : gMe c g v y w = gFr u (10 ^ c) w := by
  unfold gMe
  rw [h, z64_t (by omega)]
  rfl
theorem zbt_10 {x : Int32} (h : zBt x 0 10) : ∃ n, n ≤ 10 ∧ x = Int32.ofNat n := zbt_n (n := 10) rfl (by omega) h
def gMean (c : Nat) (g : Nat → Int32) (v w : Int32) : Int64 := if zBt v 0 10 ∧ zBt w 0 1 then gMe c g v (-4) w else -1
theorem t_X7_mean {d : Nat} {m : zM} {r : Option Value} {h' : zHp} {v w : Int32} {c a : Nat} {g : Nat → Int32} (hL : LV m 11 c g) (hg : gok g c) (ha : g 26 = Int32.ofNat a) (ha8 : a ≤ 8) (H : zE none d zm_X7_mean 0 [.ref 0, .int v, .int w, .null, .null, .null] [] m r h') : r = some (.long (gMean c g v w)) := by
  replace H := i_iln (q := 1) H I_X7_mean_0 rfl rfl
  have W := i_if_lt (t := 19) (q := 4) H I_X7_mean_1 (by decide) rfl
  clear H
  rcases W with ⟨c_1, H⟩ | ⟨c_1, H⟩
  · skip
    replace H := i_ldc2 (x := (-1)) (q := 22) H I_X7_mean_19 J_7_217 (by decide) rfl
    obtain ⟨hr, hh⟩ := i_lr H I_X7_mean_22
    exact hr.trans (by rw [gMean, if_neg (fun q => q.1.1 c_1)])
  · skip
    replace H := i_iln (q := 5) H I_X7_mean_4 rfl rfl
    replace H := i_bip (x := 10) (q := 7) H I_X7_mean_5 (by decide) rfl
    have W := i_ic_gt (t := 19) (q := 10) H I_X7_mean_7 (by decide) rfl
    clear H
    rcases W with ⟨c_7, H⟩ | ⟨c_7, H⟩
    · skip
      replace H := i_ldc2 (x := (-1)) (q := 22) H I_X7_mean_19 J_7_217 (by decide) rfl
      obtain ⟨hr, hh⟩ := i_lr H I_X7_mean_22
      exact hr.trans (by rw [gMean, if_neg (fun q => q.1.2 c_7)])
    · skip
      replace H := i_iln (q := 11) H I_X7_mean_10 rfl rfl
      have W := i_if_lt (t := 19) (q := 14) H I_X7_mean_11 (by decide) rfl
      clear H
      rcases W with ⟨c_11, H⟩ | ⟨c_11, H⟩
      · skip
        replace H := i_ldc2 (x := (-1)) (q := 22) H I_X7_mean_19 J_7_217 (by decide) rfl
        obtain ⟨hr, hh⟩ := i_lr H I_X7_mean_22
        exact hr.trans (by rw [gMean, if_neg (fun q => q.2.1 c_11)])
      · skip
        replace H := i_iln (q := 15) H I_X7_mean_14 rfl rfl
        replace H := i_icst (x := 1) (q := 16) H I_X7_mean_15 (by decide) rfl
        have W := i_ic_le (t := 23) (q := 19) H I_X7_mean_16 (by decide) rfl
        clear H
        rcases W with ⟨c_16, H⟩ | ⟨c_16, H⟩
        · skip
          replace H := i_lcst (x := 0) (q := 24) H I_X7_mean_23 (by decide) rfl
          replace H := i_lsn (q := 25) H I_X7_mean_24 rfl rfl
          replace H := i_icst (x := 0) (q := 26) H I_X7_mean_25 (by decide) rfl
          replace H := i_is (q := 28) H I_X7_mean_26 rfl rfl
          obtain ⟨k, k1, rfl⟩ := zbt_10 (x := v) ⟨c_1, c_7⟩
          obtain ⟨u, u1, u2⟩ := gSm_all (y := -4) k1 hg.1 ha ha8
          rw [gMean, if_pos ⟨⟨c_1, c_7⟩, c_11, c_16⟩, gMe_u u2 u1]
          exact me_7 hg u1 (2 ^ c) 0 0 d r h' m (by omega) hL u2 H
        · skip
          replace H := i_ldc2 (x := (-1)) (q := 22) H I_X7_mean_19 J_7_217 (by decide) rfl
          obtain ⟨hr, hh⟩ := i_lr H I_X7_mean_22
          exact hr.trans (by rw [gMean, if_neg (fun q => q.2.2 c_16)])
theorem lu_7 {c u p : Nat} {v w : Int32} {g : Nat → Int32} (hg : gok g c) (u1 : u < 2147483648) (hp4 : ¬ Int32.ofNat p = -4) : ∀ (j i : Nat) (s : Int64) (d : Nat) (r : Option Value) (h' : zHp) (m : zM), i + j = 2 ^ c → LV m 11 c g → gSm (gTm c g v (Int32.ofNat p)) j i s = Int64.ofNat u → zE none d zm_X7_luck 40 [.ref 0, .int v, .int (Int32.ofNat p), .int w, .long s, .null, .int (Int32.ofNat i)] [] m r h' → r = some (.long (gFr u (10 ^ c) w)) := by
  intro j
  induction j with
  | zero =>
    intro i s d r h' m hj hL hu H
    obtain ⟨e1, e2, e3⟩ := zsh_c c hg.1
    replace H := i_il (q := 42) H I_X7_luck_40 rfl rfl
    replace H := i_icst (x := 1) (q := 43) H I_X7_luck_42 (by decide) rfl
    replace H := i_aln (q := 44) H I_X7_luck_43 rfl rfl
    replace H := i_gfr (q := 47) H I_X7_luck_44 G_7_19 cn_X7_luck LY_0 rfl rfl
    replace H := i_gfi (q := 50) H I_X7_luck_47 G_7_90 cn_X7_luck LY_11 rfl rfl
    replace H := i_ishl (q := 51) H I_X7_luck_50 rfl
    have W := i_ic_ge (t := 93) (q := 54) H I_X7_luck_51 (by decide) rfl
    clear H
    rcases W with ⟨c_51, H⟩ | ⟨c_51, H⟩
    · skip
      replace H := i_ll (q := 95) H I_X7_luck_93 rfl rfl
      replace H := i_aln (q := 96) H I_X7_luck_95 rfl rfl
      have W := i_cv0 3 (q := 99) H I_X7_luck_96 K_7_226 Zm_96 rfl rfl
      clear H
      obtain ⟨r1, h1, Hc, K1, K2⟩ := W
      obtain ⟨e1, e2⟩ := t_X7_allOdds hL.1 hL.2.1 Hc
      have H := K1 _ _ e1 e2
      clear e1 e2 Hc K1 K2
      replace H := i_iln (q := 100) H I_X7_luck_99 rfl rfl
      have hu0 : s = Int64.ofNat u := hu
      rw [hu0, gAl_n] at H
      have W := i_jpf (q := 103) H I_X7_luck_100 K_7_230 Zm_97 rfl
      clear H
      obtain ⟨r1, h1, Hc, K1⟩ := W
      obtain ⟨e1, e2⟩ := t_X7_partOfFraction u1 (gAl_b hg.1).1 (gAl_b hg.1).2 Hc
      have H := K1 _ _ e1 e2
      clear e1 e2 Hc K1
      obtain ⟨hr, hh⟩ := i_lr H I_X7_luck_103
      exact hr
    · exfalso
      rw [hL.1, e1] at c_51
      exact absurd ((zofn_lt (by omega) (by omega)).mp c_51) (by omega)
  | succ j ih =>
    intro i s d r h' m hj hL hu H
    obtain ⟨e1, e2, e3⟩ := zsh_c c hg.1
    replace H := i_il (q := 42) H I_X7_luck_40 rfl rfl
    replace H := i_icst (x := 1) (q := 43) H I_X7_luck_42 (by decide) rfl
    replace H := i_aln (q := 44) H I_X7_luck_43 rfl rfl
    replace H := i_gfr (q := 47) H I_X7_luck_44 G_7_19 cn_X7_luck LY_0 rfl rfl
    replace H := i_gfi (q := 50) H I_X7_luck_47 G_7_90 cn_X7_luck LY_11 rfl rfl
    replace H := i_ishl (q := 51) H I_X7_luck_50 rfl
    have W := i_ic_ge (t := 93) (q := 54) H I_X7_luck_51 (by decide) rfl
    clear H
    rcases W with ⟨c_51, H⟩ | ⟨c_51, H⟩
    · exfalso
      rw [hL.1, e1] at c_51
      exact c_51 ((zofn_lt (by omega) (by omega)).mpr (by omega))
    · skip
      replace H := i_aln (q := 55) H I_X7_luck_54 rfl rfl
      replace H := i_il (q := 57) H I_X7_luck_55 rfl rfl
      have W := i_cv1 0 (q := 60) H I_X7_luck_57 K_7_223 Zm_94 rfl rfl
      clear H
      obtain ⟨r1, h1, Hc, K1, K2⟩ := W
      obtain ⟨M_57, e1, e2, F_57⟩ := t_X7_rehearseWithout hL hg Hc
      have H := K1 _ _ e1 e2
      clear e1 e2 Hc K1 K2
      replace H := i_pop (q := 61) H I_X7_luck_60 rfl rfl
      replace H := i_aln (q := 62) H I_X7_luck_61 rfl rfl
      replace H := i_gfr (q := 65) H I_X7_luck_62 G_7_26 cn_X7_luck LY_0 rfl rfl
      replace H := i_gfi (q := 68) H I_X7_luck_65 G_7_167 cn_X7_luck LY_19 rfl rfl
      replace H := i_iln (q := 69) H I_X7_luck_68 rfl rfl
      replace H := i_ishr (q := 70) H I_X7_luck_69 rfl
      replace H := i_icst (x := 1) (q := 71) H I_X7_luck_70 (by decide) rfl
      replace H := i_iand (q := 72) H I_X7_luck_71 rfl
      have W := i_if_eq (t := 87) (q := 75) H I_X7_luck_72 (by decide) rfl
      clear H
      rcases W with ⟨c_72, H⟩ | ⟨c_72, H⟩
      · skip
        replace H := i_inc (q := 90) H I_X7_luck_87 rfl rfl rfl
        replace H := i_goto (q := 40) H I_X7_luck_90 (by decide)
        obtain ⟨P1, P2, P3, P4, P5⟩ := F_57.1
        rw [P3] at c_72
        have hv : gVl c g (Int32.ofNat p) i = ((gPa c g (Int32.ofNat i)).2.2.1 >>> (Int32.ofNat p &&& 31)) &&& 1 := by
          unfold gVl
          rw [if_neg hp4]
        have ht : s + gTm c g v (Int32.ofNat p) i = s := by
          rw [gTm, hv, c_72, show ((0 : Int32).toInt64) = 0 from rfl, Int64.mul_zero, Int64.add_zero]
        rw [gSm, ht] at hu
        replace H : zE none d zm_X7_luck 40 [.ref 0, .int v, .int (Int32.ofNat p), .int w, .long s, .null, .int (Int32.ofNat (i + 1))] [] M_57 r h' := by
          rw [← zofn_s]
          exact H
        exact ih (i + 1) _ d r h' M_57 (by omega) (LV_f hL (fun a b h1 h2 => F_57.2 a b (by omega))) hu H
      · skip
        replace H := i_ll (q := 77) H I_X7_luck_75 rfl rfl
        replace H := i_aln (q := 78) H I_X7_luck_77 rfl rfl
        replace H := i_il (q := 80) H I_X7_luck_78 rfl rfl
        replace H := i_iln (q := 81) H I_X7_luck_80 rfl rfl
        have W := i_cv2 3 (q := 84) H I_X7_luck_81 K_7_219 Zm_95 rfl rfl
        clear H
        obtain ⟨r1, h1, Hc, K1, K2⟩ := W
        obtain ⟨e1, e2⟩ := t_X7_odds ((F_57.2 11 2 (by omega)).trans hL.1) hL.2.1 Hc
        have H := K1 _ _ e1 e2
        clear e1 e2 Hc K1 K2
        replace H := i_ladd (q := 85) H I_X7_luck_84 rfl
        replace H := i_ls (q := 87) H I_X7_luck_85 rfl rfl
        replace H := i_inc (q := 90) H I_X7_luck_87 rfl rfl rfl
        replace H := i_goto (q := 40) H I_X7_luck_90 (by decide)
        obtain ⟨P1, P2, P3, P4, P5⟩ := F_57.1
        rw [P3] at c_72
        have hv : gVl c g (Int32.ofNat p) i = ((gPa c g (Int32.ofNat i)).2.2.1 >>> (Int32.ofNat p &&& 31)) &&& 1 := by
          unfold gVl
          rw [if_neg hp4]
        have hb : ((gPa c g (Int32.ofNat i)).2.2.1 >>> (Int32.ofNat p &&& 31)) &&& 1 = 1 := (zbt01 _).resolve_left c_72
        have ht : gTm c g v (Int32.ofNat p) i = gOd v i c := by
          rw [gTm, hv, hb, show ((1 : Int32).toInt64) = 1 from rfl, Int64.mul_one]
        rw [gSm, ht] at hu
        replace H : zE none d zm_X7_luck 40 [.ref 0, .int v, .int (Int32.ofNat p), .int w, .long (s + gOd v i c), .null, .int (Int32.ofNat (i + 1))] [] M_57 r h' := by
          rw [← zofn_s]
          exact H
        exact ih (i + 1) _ d r h' M_57 (by omega) (LV_f hL (fun a b h1 h2 => F_57.2 a b (by omega))) hu H
def gLuck (c : Nat) (g : Nat → Int32) (v x w : Int32) : Int64 := if zBt v 0 10 ∧ zIs x c ∧ zBt w 0 1 then gMe c g v x w else -1
theorem t_X7_luck {d : Nat} {m : zM} {r : Option Value} {h' : zHp} {v x w : Int32} {c a : Nat} {g : Nat → Int32} (hL : LV m 11 c g) (hg : gok g c) (ha : g 26 = Int32.ofNat a) (ha8 : a ≤ 8) (H : zE none d zm_X7_luck 0 [.ref 0, .int v, .int x, .int w, .null, .null, .null] [] m r h') : r = some (.long (gLuck c g v x w)) := by
  replace H := i_iln (q := 1) H I_X7_luck_0 rfl rfl
  have W := i_if_lt (t := 30) (q := 4) H I_X7_luck_1 (by decide) rfl
  clear H
  rcases W with ⟨c_1, H⟩ | ⟨c_1, H⟩
  · skip
    replace H := i_ldc2 (x := (-1)) (q := 33) H I_X7_luck_30 J_7_217 (by decide) rfl
    obtain ⟨hr, hh⟩ := i_lr H I_X7_luck_33
    exact hr.trans (by rw [gLuck, if_neg (fun q => q.1.1 c_1)])
  · skip
    replace H := i_iln (q := 5) H I_X7_luck_4 rfl rfl
    replace H := i_bip (x := 10) (q := 7) H I_X7_luck_5 (by decide) rfl
    have W := i_ic_gt (t := 30) (q := 10) H I_X7_luck_7 (by decide) rfl
    clear H
    rcases W with ⟨c_7, H⟩ | ⟨c_7, H⟩
    · skip
      replace H := i_ldc2 (x := (-1)) (q := 33) H I_X7_luck_30 J_7_217 (by decide) rfl
      obtain ⟨hr, hh⟩ := i_lr H I_X7_luck_33
      exact hr.trans (by rw [gLuck, if_neg (fun q => q.1.2 c_7)])
    · skip
      replace H := i_aln (q := 11) H I_X7_luck_10 rfl rfl
      replace H := i_gfr (q := 14) H I_X7_luck_11 G_7_19 cn_X7_luck LY_0 rfl rfl
      replace H := i_iln (q := 15) H I_X7_luck_14 rfl rfl
      have W := i_cv1 0 (q := 18) H I_X7_luck_15 K_7_112 Zm_3 rfl rfl
      clear H
      obtain ⟨r1, h1, Hc, K1, K2⟩ := W
      obtain ⟨e1, e2⟩ := t_X0_has lkk_11 Hc
      have H := K1 _ _ e1 e2
      clear e1 e2 Hc K1 K2
      have W := i_if_eq (t := 30) (q := 21) H I_X7_luck_18 (by decide) rfl
      clear H
      rcases W with ⟨c_18, H⟩ | ⟨c_18, H⟩
      · skip
        replace H := i_ldc2 (x := (-1)) (q := 33) H I_X7_luck_30 J_7_217 (by decide) rfl
        obtain ⟨hr, hh⟩ := i_lr H I_X7_luck_33
        rw [hL.1] at c_18
        exact hr.trans (by rw [gLuck, if_neg (fun q => zif0 c_18 q.2.1)])
      · skip
        replace H := i_iln (q := 22) H I_X7_luck_21 rfl rfl
        have W := i_if_lt (t := 30) (q := 25) H I_X7_luck_22 (by decide) rfl
        clear H
        rcases W with ⟨c_22, H⟩ | ⟨c_22, H⟩
        · skip
          replace H := i_ldc2 (x := (-1)) (q := 33) H I_X7_luck_30 J_7_217 (by decide) rfl
          obtain ⟨hr, hh⟩ := i_lr H I_X7_luck_33
          exact hr.trans (by rw [gLuck, if_neg (fun q => q.2.2.1 c_22)])
        · skip
          replace H := i_iln (q := 26) H I_X7_luck_25 rfl rfl
          replace H := i_icst (x := 1) (q := 27) H I_X7_luck_26 (by decide) rfl
          have W := i_ic_le (t := 34) (q := 30) H I_X7_luck_27 (by decide) rfl
          clear H
          rcases W with ⟨c_27, H⟩ | ⟨c_27, H⟩
          · skip
            replace H := i_lcst (x := 0) (q := 35) H I_X7_luck_34 (by decide) rfl
            replace H := i_ls (q := 37) H I_X7_luck_35 rfl rfl
            replace H := i_icst (x := 0) (q := 38) H I_X7_luck_37 (by decide) rfl
            replace H := i_is (q := 40) H I_X7_luck_38 rfl rfl
            rw [hL.1] at c_18
            have hq : zBt v 0 10 ∧ zIs x c ∧ zBt w 0 1 := ⟨⟨c_1, c_7⟩, zif1 c_18, c_22, c_27⟩
            obtain ⟨k, k1, rfl⟩ := zbt_10 hq.1
            obtain ⟨p, p1, rfl⟩ := zlt_n rfl (by have := hg.1; omega) hq.2.1
            have hp4 : ¬ Int32.ofNat p = -4 := fun q => by
              have q2 := congrArg Int32.toInt q
              have := hg.1
              rw [zofn_t (by omega)] at q2
              have e4 : (-4 : Int32).toInt = -4 := rfl
              omega
            obtain ⟨u, u1, u2⟩ := gSm_all (y := Int32.ofNat p) k1 hg.1 ha ha8
            rw [gLuck, if_pos hq, gMe_u u2 u1]
            exact lu_7 hg u1 hp4 (2 ^ c) 0 0 d r h' m (by omega) hL u2 H
          · skip
            replace H := i_ldc2 (x := (-1)) (q := 33) H I_X7_luck_30 J_7_217 (by decide) rfl
            obtain ⟨hr, hh⟩ := i_lr H I_X7_luck_33
            exact hr.trans (by rw [gLuck, if_neg (fun q => q.2.2.2 c_27)])
theorem b1_loop {m : zM} {c : Nat} {v y w : Int32} (hc : m 71 2 = Int32.ofNat c) (hc5 : c ≤ 5) : ∀ (j i d : Nat) (r : Option Value) (h' : zHp), i + j = c → zE none d zm_X8_byAway 9 [.ref 71, .int v, .int y, .int w, .long 0, .null, .long (gAl i), .null, .int (Int32.ofNat i), .null, .null, .null] [] m r h' → zE none d zm_X8_byAway 32 [.ref 71, .int v, .int y, .int w, .long 0, .null, .long (gAl c), .null, .null, .null, .null, .null] [] m r h' := by
  intro j
  induction j with
  | zero =>
    intro i d r h' hj H
    replace H := i_il (q := 11) H I_X8_byAway_9 rfl rfl
    replace H := i_aln (q := 12) H I_X8_byAway_11 rfl rfl
    replace H := i_gfi (q := 15) H I_X8_byAway_12 G_8_131 cn_X8_byAway LY_71 rfl rfl
    have W := i_ic_ge (t := 32) (q := 18) H I_X8_byAway_15 (by decide) rfl
    clear H
    rcases W with ⟨c_15, H⟩ | ⟨c_15, H⟩
    · skip
      have e : i = c := by omega
      subst e
      exact i_w [true, true, true, true, true, true, true, true, false, true, true, true] H
    · exfalso
      rw [hc] at c_15
      exact absurd ((zofn_lt (by omega) (by omega)).mp c_15) (by omega)
  | succ j ih =>
    intro i d r h' hj H
    replace H := i_il (q := 11) H I_X8_byAway_9 rfl rfl
    replace H := i_aln (q := 12) H I_X8_byAway_11 rfl rfl
    replace H := i_gfi (q := 15) H I_X8_byAway_12 G_8_131 cn_X8_byAway LY_71 rfl rfl
    have W := i_ic_ge (t := 32) (q := 18) H I_X8_byAway_15 (by decide) rfl
    clear H
    rcases W with ⟨c_15, H⟩ | ⟨c_15, H⟩
    · exfalso
      rw [hc] at c_15
      exact c_15 ((zofn_lt (by omega) (by omega)).mpr (by omega))
    · skip
      replace H := i_ll (q := 20) H I_X8_byAway_18 rfl rfl
      replace H := i_ldc2 (x := 10) (q := 23) H I_X8_byAway_20 J_8_204 (by decide) rfl
      replace H := i_lmul (q := 24) H I_X8_byAway_23 rfl
      replace H := i_ls (q := 26) H I_X8_byAway_24 rfl rfl
      replace H := i_inc (q := 29) H I_X8_byAway_26 rfl rfl rfl
      replace H := i_goto (q := 9) H I_X8_byAway_29 (by decide)
      replace H : zE none d zm_X8_byAway 9 [.ref 71, .int v, .int y, .int w, .long 0, .null, .long (gAl (i + 1)), .null, .int (Int32.ofNat (i + 1)), .null, .null, .null] [] m r h' := by
        rw [gAl, ← zofn_s]
        exact H
      exact ih (i + 1) d r h' (by omega) H
theorem b2_loop {m : zM} {c a : Nat} {v y w : Int32} {s o : Int64} (hc : m 71 2 = Int32.ofNat c) (hc5 : c ≤ 5) : ∀ (j i d : Nat) (r : Option Value) (h' : zHp), i + j = c → zE none d zm_X8_byAway 50 [.ref 71, .int v, .int y, .int w, .long s, .null, .long o, .null, .int (Int32.ofNat a), .long (gOd v a i), .null, .int (Int32.ofNat i)] [] m r h' → zE none d zm_X8_byAway 91 [.ref 71, .int v, .int y, .int w, .long s, .null, .long o, .null, .int (Int32.ofNat a), .long (gOd v a c), .null, .null] [] m r h' := by
  intro j
  induction j with
  | zero =>
    intro i d r h' hj H
    replace H := i_il (q := 52) H I_X8_byAway_50 rfl rfl
    replace H := i_aln (q := 53) H I_X8_byAway_52 rfl rfl
    replace H := i_gfi (q := 56) H I_X8_byAway_53 G_8_131 cn_X8_byAway LY_71 rfl rfl
    have W := i_ic_ge (t := 91) (q := 59) H I_X8_byAway_56 (by decide) rfl
    clear H
    rcases W with ⟨c_56, H⟩ | ⟨c_56, H⟩
    · skip
      have e : i = c := by omega
      subst e
      exact i_w [true, true, true, true, true, true, true, true, true, true, true, false] H
    · exfalso
      rw [hc] at c_56
      exact absurd ((zofn_lt (by omega) (by omega)).mp c_56) (by omega)
  | succ j ih =>
    intro i d r h' hj H
    replace H := i_il (q := 52) H I_X8_byAway_50 rfl rfl
    replace H := i_aln (q := 53) H I_X8_byAway_52 rfl rfl
    replace H := i_gfi (q := 56) H I_X8_byAway_53 G_8_131 cn_X8_byAway LY_71 rfl rfl
    have W := i_ic_ge (t := 91) (q := 59) H I_X8_byAway_56 (by decide) rfl
    clear H
    rcases W with ⟨c_56, H⟩ | ⟨c_56, H⟩
    · exfalso
      rw [hc] at c_56
      exact c_56 ((zofn_lt (by omega) (by omega)).mpr (by omega))
    · skip
      replace H := i_ll (q := 61) H I_X8_byAway_59 rfl rfl
      replace H := i_il (q := 63) H I_X8_byAway_61 rfl rfl
      replace H := i_il (q := 65) H I_X8_byAway_63 rfl rfl
      replace H := i_ishr (q := 66) H I_X8_byAway_65 rfl
      replace H := i_icst (x := 1) (q := 67) H I_X8_byAway_66 (by decide) rfl
      replace H := i_iand (q := 68) H I_X8_byAway_67 rfl
      replace H := i_icst (x := 1) (q := 69) H I_X8_byAway_68 (by decide) rfl
      have W := i_ic_ne (t := 77) (q := 72) H I_X8_byAway_69 (by decide) rfl
      clear H
      rcases W with ⟨c_69, H⟩ | ⟨c_69, H⟩
      · skip
        replace H := i_bip (x := 10) (q := 79) H I_X8_byAway_77 (by decide) rfl
        replace H := i_iln (q := 80) H I_X8_byAway_79 rfl rfl
        replace H := i_isub (q := 81) H I_X8_byAway_80 rfl
        replace H := i_i2l (q := 82) H I_X8_byAway_81 rfl
        replace H := i_lmul (q := 83) H I_X8_byAway_82 rfl
        replace H := i_ls (q := 85) H I_X8_byAway_83 rfl rfl
        replace H := i_inc (q := 88) H I_X8_byAway_85 rfl rfl rfl
        replace H := i_goto (q := 50) H I_X8_byAway_88 (by decide)
        have c69 : zbt (Int32.ofNat a) i = 0 := Decidable.not_not.mp (fun q => c_69 (zbt_1.mpr q))
        replace H : zE none d zm_X8_byAway 50 [.ref 71, .int v, .int y, .int w, .long s, .null, .long o, .null, .int (Int32.ofNat a), .long (gOd v a (i + 1)), .null, .int (Int32.ofNat (i + 1))] [] m r h' := by
          rw [gOd, if_pos c69, ← zofn_s]
          exact H
        exact ih (i + 1) d r h' (by omega) H
      · skip
        replace H := i_iln (q := 73) H I_X8_byAway_72 rfl rfl
        replace H := i_i2l (q := 74) H I_X8_byAway_73 rfl
        replace H := i_goto (q := 82) H I_X8_byAway_74 (by decide)
        replace H := i_lmul (q := 83) H I_X8_byAway_82 rfl
        replace H := i_ls (q := 85) H I_X8_byAway_83 rfl rfl
        replace H := i_inc (q := 88) H I_X8_byAway_85 rfl rfl rfl
        replace H := i_goto (q := 50) H I_X8_byAway_88 (by decide)
        have c69 : ¬ zbt (Int32.ofNat a) i = 0 := zbt_1.mp c_69
        replace H : zE none d zm_X8_byAway 50 [.ref 71, .int v, .int y, .int w, .long s, .null, .long o, .null, .int (Int32.ofNat a), .long (gOd v a (i + 1)), .null, .int (Int32.ofNat (i + 1))] [] m r h' := by
          rw [gOd, if_neg c69, ← zofn_s]
          exact H
        exact ih (i + 1) d r h' (by omega) H
theorem t_goesA {d : Nat} {m : zM} {r : Option Value} {h' : zHp} {c a : Nat} {x : Int32} {g : Nat → Int32} (hP : PG m 108 g) (hg : gok g c) (ha : g 26 = Int32.ofNat a) (ha8 : a ≤ 8) (hpl : gpl g) (hc : m 71 2 = Int32.ofNat c) (hM : zMk m) (H : zE none d zm_X8_planGoes 0 [.ref 71, .int x, .null, .null] [] m r h') : ∃ m1, r = none ∧ h' = zhp m1 ∧ rP m1 8 (gPa c g x) ∧ zfP m m1 := by
  obtain ⟨m1, a1, a2, a3, a4⟩ := t_X8_planGoes hP hg ha ha8 hpl hc hM H
  rw [gPa_m hg hpl ha ha8] at a3
  exact ⟨m1, a1, a2, a3, a4⟩
theorem b3_loop {c a : Nat} {g : Nat → Int32} (hg : gok g c) (hpl : gpl g) (ha : g 26 = Int32.ofNat a) (ha8 : a ≤ 8) {u : Nat} {v y w : Int32} (u1 : u < 2147483648) : ∀ (j i : Nat) (s : Int64) (d : Nat) (r : Option Value) (h' : zHp) (m : zM), i + j = 2 ^ c → PG m 0 g → m 71 2 = Int32.ofNat c → zMk m → gSm (gTm c g v y) j i s = Int64.ofNat u → zE none d zm_X8_byAway 35 [.ref 71, .int v, .int y, .int w, .long s, .null, .long (gAl c), .null, .int (Int32.ofNat i), .null, .null, .null] [] m r h' → r = some (.long (gFr u (10 ^ c) w)) ∧ ∃ m1, h' = zhp m1 := by
  intro j
  induction j with
  | zero =>
    intro i s d r h' m hj hP hc hM hu H
    obtain ⟨e1, e2, e3⟩ := zsh_c c hg.1
    replace H := i_il (q := 37) H I_X8_byAway_35 rfl rfl
    replace H := i_aln (q := 38) H I_X8_byAway_37 rfl rfl
    have W := i_cv0 0 (q := 41) H I_X8_byAway_38 K_8_167 Zm_139 rfl rfl
    clear H
    obtain ⟨r1, h1, Hc, K1, K2⟩ := W
    obtain ⟨e1, e2⟩ := t_X8_all Hc
    have H := K1 _ _ e1 e2
    clear e1 e2 Hc K1 K2
    have W := i_ic_gt (t := 140) (q := 44) H I_X8_byAway_41 (by decide) rfl
    clear H
    rcases W with ⟨c_41, H⟩ | ⟨c_41, H⟩
    · skip
      replace H := i_ll (q := 142) H I_X8_byAway_140 rfl rfl
      replace H := i_ll (q := 144) H I_X8_byAway_142 rfl rfl
      replace H := i_iln (q := 145) H I_X8_byAway_144 rfl rfl
      have hu0 : s = Int64.ofNat u := hu
      rw [hu0, gAl_n] at H
      have W := i_jlo (q := 148) H I_X8_byAway_145 K_8_220 Zm_163 rfl
      clear H
      obtain ⟨r1, h1, Hc, K1⟩ := W
      obtain ⟨e1, e2⟩ := t_X8_lowest u1 (gAl_b hg.1).2 Hc
      have H := K1 _ _ e1 e2
      clear e1 e2 Hc K1
      obtain ⟨hr, hh⟩ := i_lr H I_X8_byAway_148
      exact ⟨hr, _, hh⟩
    · exfalso
      rw [hc, e1] at c_41
      rw [Int32.lt_iff_toInt_lt, zofn_m1 (by omega), zofn_t (by omega)] at c_41
      omega
  | succ j ih =>
    intro i s d r h' m hj hP hc hM hu H
    obtain ⟨e1, e2, e3⟩ := zsh_c c hg.1
    replace H := i_il (q := 37) H I_X8_byAway_35 rfl rfl
    replace H := i_aln (q := 38) H I_X8_byAway_37 rfl rfl
    have W := i_cv0 0 (q := 41) H I_X8_byAway_38 K_8_167 Zm_139 rfl rfl
    clear H
    obtain ⟨r1, h1, Hc, K1, K2⟩ := W
    obtain ⟨e1, e2⟩ := t_X8_all Hc
    have H := K1 _ _ e1 e2
    clear e1 e2 Hc K1 K2
    have W := i_ic_gt (t := 140) (q := 44) H I_X8_byAway_41 (by decide) rfl
    clear H
    rcases W with ⟨c_41, H⟩ | ⟨c_41, H⟩
    · exfalso
      rw [hc, e1] at c_41
      rw [Int32.lt_iff_toInt_lt, zofn_m1 (by omega), zofn_t (by omega)] at c_41
      omega
    · skip
      replace H := i_lcst (x := 1) (q := 45) H I_X8_byAway_44 (by decide) rfl
      replace H := i_ls (q := 47) H I_X8_byAway_45 rfl rfl
      replace H := i_icst (x := 0) (q := 48) H I_X8_byAway_47 (by decide) rfl
      replace H := i_is (q := 50) H I_X8_byAway_48 rfl rfl
      replace H := b2_loop hc hg.1 c 0 d r h' (by omega) H
      replace H := i_aln (q := 92) H I_X8_byAway_91 rfl rfl
      replace H := i_icst (x := 0) (q := 93) H I_X8_byAway_92 (by decide) rfl
      replace H := i_bip (x := 108) (q := 95) H I_X8_byAway_93 (by decide) rfl
      have W := i_cv2 1 (q := 98) H I_X8_byAway_95 K_8_188 Zm_147 rfl rfl
      clear H
      obtain ⟨r1, h1, Hc, K1, K2⟩ := W
      obtain ⟨M_95, e1, e2, F_95⟩ := t_X8_copies (f := 0) (t := 108) rfl rfl (by omega) (by omega) (by omega) Hc
      have H := K2 _ e1 e2
      clear e1 e2 Hc K1 K2
      replace H := i_aln (q := 99) H I_X8_byAway_98 rfl rfl
      replace H := i_il (q := 101) H I_X8_byAway_99 rfl rfl
      have W := i_cv1 2 (q := 104) H I_X8_byAway_101 K_8_192 Zm_148 rfl rfl
      clear H
      obtain ⟨r1, h1, Hc, K1, K2⟩ := W
      obtain ⟨M_101, e1, e2, F_101⟩ := t_goesA (x := Int32.ofNat i) (PG_cp hP F_95) hg ha ha8 hpl ((F_95.2 71 2 (by omega)).trans hc) (zMk_f hM (fun b => F_95.2 73 b (by omega))) Hc
      have H := K2 _ e1 e2
      clear e1 e2 Hc K1 K2
      replace H := i_ll (q := 106) H I_X8_byAway_104 rfl rfl
      replace H := i_ll (q := 108) H I_X8_byAway_106 rfl rfl
      replace H := i_iln (q := 109) H I_X8_byAway_108 rfl rfl
      replace H := i_bip (x := (-4)) (q := 111) H I_X8_byAway_109 (by decide) rfl
      have W := i_ic_ne (t := 121) (q := 114) H I_X8_byAway_111 (by decide) rfl
      clear H
      rcases W with ⟨c_111, H⟩ | ⟨c_111, H⟩
      · skip
        replace H := i_aln (q := 122) H I_X8_byAway_121 rfl rfl
        replace H := i_gfi (q := 125) H I_X8_byAway_122 G_8_182 cn_X8_byAway LY_71 rfl rfl
        replace H := i_iln (q := 126) H I_X8_byAway_125 rfl rfl
        replace H := i_ishr (q := 127) H I_X8_byAway_126 rfl
        replace H := i_icst (x := 1) (q := 128) H I_X8_byAway_127 (by decide) rfl
        replace H := i_iand (q := 129) H I_X8_byAway_128 rfl
        replace H := i_i2l (q := 130) H I_X8_byAway_129 rfl
        replace H := i_lmul (q := 131) H I_X8_byAway_130 rfl
        replace H := i_ladd (q := 132) H I_X8_byAway_131 rfl
        replace H := i_ls (q := 134) H I_X8_byAway_132 rfl rfl
        replace H := i_inc (q := 137) H I_X8_byAway_134 rfl rfl rfl
        replace H := i_goto (q := 35) H I_X8_byAway_137 (by decide)
        obtain ⟨P1, P2, P3, P4, P5⟩ := F_101.1
        have hv : gVl c g y i = ((gPa c g (Int32.ofNat i)).2.2.1 >>> (y &&& 31)) &&& 1 := by
          unfold gVl
          rw [if_neg c_111]
        rw [P3, ← hv] at H
        replace H := i_w [true, true, true, true, true, true, true, true, true, false, false, false] H
        replace H : zE none d zm_X8_byAway 35 [.ref 71, .int v, .int y, .int w, .long (s + gTm c g v y i), .null, .long (gAl c), .null, .int (Int32.ofNat (i + 1)), .null, .null, .null] [] M_101 r h' := by
          rw [← zofn_s]
          exact H
        exact ih (i + 1) _ d r h' M_101 (by omega) ⟨hP.1, fun j hj => ((F_101.2 72 (0 + j) (by omega) (by omega) (by omega)).trans (F_95.2 72 (0 + j) (by omega))).trans (hP.2 j hj)⟩ (((F_101.2 71 2 (by omega) (by omega) (by omega)).trans (F_95.2 71 2 (by omega))).trans hc) (zMk_f hM (fun b => (F_101.2 73 b (by omega) (by omega) (by omega)).trans (F_95.2 73 b (by omega)))) hu H
      · skip
        replace H := i_aln (q := 115) H I_X8_byAway_114 rfl rfl
        replace H := i_gfi (q := 118) H I_X8_byAway_115 G_8_179 cn_X8_byAway LY_71 rfl rfl
        replace H := i_goto (q := 129) H I_X8_byAway_118 (by decide)
        replace H := i_i2l (q := 130) H I_X8_byAway_129 rfl
        replace H := i_lmul (q := 131) H I_X8_byAway_130 rfl
        replace H := i_ladd (q := 132) H I_X8_byAway_131 rfl
        replace H := i_ls (q := 134) H I_X8_byAway_132 rfl rfl
        replace H := i_inc (q := 137) H I_X8_byAway_134 rfl rfl rfl
        replace H := i_goto (q := 35) H I_X8_byAway_137 (by decide)
        obtain ⟨P1, P2, P3, P4, P5⟩ := F_101.1
        have hv : gVl c g y i = (gPa c g (Int32.ofNat i)).2.1 := by
          unfold gVl
          rw [if_pos c_111]
        rw [P2, ← hv] at H
        replace H := i_w [true, true, true, true, true, true, true, true, true, false, false, false] H
        replace H : zE none d zm_X8_byAway 35 [.ref 71, .int v, .int y, .int w, .long (s + gTm c g v y i), .null, .long (gAl c), .null, .int (Int32.ofNat (i + 1)), .null, .null, .null] [] M_101 r h' := by
          rw [← zofn_s]
          exact H
        exact ih (i + 1) _ d r h' M_101 (by omega) ⟨hP.1, fun j hj => ((F_101.2 72 (0 + j) (by omega) (by omega) (by omega)).trans (F_95.2 72 (0 + j) (by omega))).trans (hP.2 j hj)⟩ (((F_101.2 71 2 (by omega) (by omega) (by omega)).trans (F_95.2 71 2 (by omega))).trans hc) (zMk_f hM (fun b => (F_101.2 73 b (by omega) (by omega) (by omega)).trans (F_95.2 73 b (by omega)))) hu H
theorem t_X8_byAway {d : Nat} {m : zM} {r : Option Value} {h' : zHp} {u : Nat} {v y w : Int32} {c a : Nat} {g : Nat → Int32} (hP : PG m 0 g) (hg : gok g c) (hpl : gpl g) (ha : g 26 = Int32.ofNat a) (ha8 : a ≤ 8) (hc : m 71 2 = Int32.ofNat c) (hM : zMk m) (u1 : u < 2147483648) (hu : gSm (gTm c g v y) (2 ^ c) 0 0 = Int64.ofNat u) (H : zE none d zm_X8_byAway 0 [.ref 71, .int v, .int y, .int w, .null, .null, .null, .null, .null, .null, .null, .null] [] m r h') : r = some (.long (gFr u (10 ^ c) w)) ∧ ∃ m1, h' = zhp m1 := by
  replace H := i_lcst (x := 0) (q := 1) H I_X8_byAway_0 (by decide) rfl
  replace H := i_ls (q := 3) H I_X8_byAway_1 rfl rfl
  replace H := i_lcst (x := 1) (q := 4) H I_X8_byAway_3 (by decide) rfl
  replace H := i_ls (q := 6) H I_X8_byAway_4 rfl rfl
  replace H := i_icst (x := 0) (q := 7) H I_X8_byAway_6 (by decide) rfl
  replace H := i_is (q := 9) H I_X8_byAway_7 rfl rfl
  replace H := b1_loop hc hg.1 c 0 d r h' (by omega) H
  replace H := i_icst (x := 0) (q := 33) H I_X8_byAway_32 (by decide) rfl
  replace H := i_is (q := 35) H I_X8_byAway_33 rfl rfl
  exact b3_loop hg hpl ha ha8 u1 (2 ^ c) 0 0 d r h' m (by omega) hP hc hM hu H
theorem t_X8_mean {d : Nat} {m : zM} {r : Option Value} {h' : zHp} {v w : Int32} {c a : Nat} {g : Nat → Int32} (hP : PG m 0 g) (hg : gok g c) (hpl : gpl g) (ha : g 26 = Int32.ofNat a) (ha8 : a ≤ 8) (hc : m 71 2 = Int32.ofNat c) (hM : zMk m) (H : zE none d zm_X8_mean 0 [.ref 71, .int v, .int w] [] m r h') : r = some (.long (gMean c g v w)) := by
  replace H := i_iln (q := 1) H I_X8_mean_0 rfl rfl
  replace H := i_i2l (q := 2) H I_X8_mean_1 rfl
  replace H := i_lcst (x := 0) (q := 3) H I_X8_mean_2 (by decide) rfl
  replace H := i_ldc2 (x := 10) (q := 6) H I_X8_mean_3 J_8_204 (by decide) rfl
  replace H := i_in (q := 9) H I_X8_mean_6 K_8_55 rfl
  have W := i_if_eq (t := 33) (q := 12) H I_X8_mean_9 (by decide) rfl
  clear H
  rcases W with ⟨c_9, H⟩ | ⟨c_9, H⟩
  · skip
    replace H := i_ldc2 (x := (-1)) (q := 36) H I_X8_mean_33 J_8_228 (by decide) rfl
    obtain ⟨hr, hh⟩ := i_lr H I_X8_mean_36
    rw [zin_bt (lo := 0) (hi := 10) rfl rfl] at c_9
    exact hr.trans (by rw [gMean, if_neg (fun q => zif0 c_9 q.1)])
  · skip
    replace H := i_iln (q := 13) H I_X8_mean_12 rfl rfl
    replace H := i_i2l (q := 14) H I_X8_mean_13 rfl
    replace H := i_lcst (x := 0) (q := 15) H I_X8_mean_14 (by decide) rfl
    replace H := i_lcst (x := 1) (q := 16) H I_X8_mean_15 (by decide) rfl
    replace H := i_in (q := 19) H I_X8_mean_16 K_8_55 rfl
    have W := i_if_eq (t := 33) (q := 22) H I_X8_mean_19 (by decide) rfl
    clear H
    rcases W with ⟨c_19, H⟩ | ⟨c_19, H⟩
    · skip
      replace H := i_ldc2 (x := (-1)) (q := 36) H I_X8_mean_33 J_8_228 (by decide) rfl
      obtain ⟨hr, hh⟩ := i_lr H I_X8_mean_36
      rw [zin_bt (lo := 0) (hi := 1) rfl rfl] at c_19
      exact hr.trans (by rw [gMean, if_neg (fun q => zif0 c_19 q.2)])
    · skip
      replace H := i_aln (q := 23) H I_X8_mean_22 rfl rfl
      replace H := i_iln (q := 24) H I_X8_mean_23 rfl rfl
      replace H := i_bip (x := (-4)) (q := 26) H I_X8_mean_24 (by decide) rfl
      replace H := i_iln (q := 27) H I_X8_mean_26 rfl rfl
      have W := i_cv3 8 (q := 30) H I_X8_mean_27 K_8_224 Zm_164 rfl rfl
      clear H
      obtain ⟨r1, h1, Hc, K1, K2⟩ := W
      rw [zin_bt (lo := 0) (hi := 10) rfl rfl] at c_9
      rw [zin_bt (lo := 0) (hi := 1) rfl rfl] at c_19
      have hq : zBt v 0 10 ∧ zBt w 0 1 := ⟨zif1 c_9, zif1 c_19⟩
      obtain ⟨k, k1, rfl⟩ := zbt_10 hq.1
      obtain ⟨u, u1, u2⟩ := gSm_all (y := -4) k1 hg.1 ha ha8
      obtain ⟨e1, m9, e2⟩ := t_X8_byAway hP hg hpl ha ha8 hc hM u1 u2 Hc
      have H := K1 _ _ e1 e2
      clear e1 e2 Hc K1 K2
      replace H := i_goto (q := 36) H I_X8_mean_30 (by decide)
      obtain ⟨hr, hh⟩ := i_lr H I_X8_mean_36
      exact hr.trans (by rw [gMean, if_pos hq, gMe_u u2 u1])
theorem t_X8_luck {d : Nat} {m : zM} {r : Option Value} {h' : zHp} {v x w : Int32} {c a : Nat} {g : Nat → Int32} (hP : PG m 0 g) (hg : gok g c) (hpl : gpl g) (ha : g 26 = Int32.ofNat a) (ha8 : a ≤ 8) (hc : m 71 2 = Int32.ofNat c) (hM : zMk m) (H : zE none d zm_X8_luck 0 [.ref 71, .int v, .int x, .int w] [] m r h') : r = some (.long (gLuck c g v x w)) := by
  have hc5 := hg.1
  replace H := i_iln (q := 1) H I_X8_luck_0 rfl rfl
  replace H := i_i2l (q := 2) H I_X8_luck_1 rfl
  replace H := i_lcst (x := 0) (q := 3) H I_X8_luck_2 (by decide) rfl
  replace H := i_ldc2 (x := 10) (q := 6) H I_X8_luck_3 J_8_204 (by decide) rfl
  replace H := i_in (q := 9) H I_X8_luck_6 K_8_55 rfl
  have W := i_if_eq (t := 40) (q := 12) H I_X8_luck_9 (by decide) rfl
  clear H
  rcases W with ⟨c_9, H⟩ | ⟨c_9, H⟩
  · skip
    replace H := i_ldc2 (x := (-1)) (q := 43) H I_X8_luck_40 J_8_228 (by decide) rfl
    obtain ⟨hr, hh⟩ := i_lr H I_X8_luck_43
    rw [zin_bt (lo := 0) (hi := 10) rfl rfl] at c_9
    exact hr.trans (by rw [gLuck, if_neg (fun q => zif0 c_9 q.1)])
  · skip
    replace H := i_aln (q := 13) H I_X8_luck_12 rfl rfl
    replace H := i_iln (q := 14) H I_X8_luck_13 rfl rfl
    have W := i_cv1 0 (q := 17) H I_X8_luck_14 K_8_151 Zm_127 rfl rfl
    clear H
    obtain ⟨r1, h1, Hc, K1, K2⟩ := W
    obtain ⟨e1, e2⟩ := t_X8_isOne hc hc5 Hc
    have H := K1 _ _ e1 e2
    clear e1 e2 Hc K1 K2
    have W := i_if_eq (t := 40) (q := 20) H I_X8_luck_17 (by decide) rfl
    clear H
    rcases W with ⟨c_17, H⟩ | ⟨c_17, H⟩
    · skip
      replace H := i_ldc2 (x := (-1)) (q := 43) H I_X8_luck_40 J_8_228 (by decide) rfl
      obtain ⟨hr, hh⟩ := i_lr H I_X8_luck_43
      rw [hc] at c_17
      exact hr.trans (by rw [gLuck, if_neg (fun q => zif0 c_17 q.2.1)])
    · skip
      replace H := i_iln (q := 21) H I_X8_luck_20 rfl rfl
      replace H := i_i2l (q := 22) H I_X8_luck_21 rfl
      replace H := i_lcst (x := 0) (q := 23) H I_X8_luck_22 (by decide) rfl
      replace H := i_lcst (x := 1) (q := 24) H I_X8_luck_23 (by decide) rfl
      replace H := i_in (q := 27) H I_X8_luck_24 K_8_55 rfl
      have W := i_if_eq (t := 40) (q := 30) H I_X8_luck_27 (by decide) rfl
      clear H
      rcases W with ⟨c_27, H⟩ | ⟨c_27, H⟩
      · skip
        replace H := i_ldc2 (x := (-1)) (q := 43) H I_X8_luck_40 J_8_228 (by decide) rfl
        obtain ⟨hr, hh⟩ := i_lr H I_X8_luck_43
        rw [zin_bt (lo := 0) (hi := 1) rfl rfl] at c_27
        exact hr.trans (by rw [gLuck, if_neg (fun q => zif0 c_27 q.2.2)])
      · skip
        replace H := i_aln (q := 31) H I_X8_luck_30 rfl rfl
        replace H := i_iln (q := 32) H I_X8_luck_31 rfl rfl
        replace H := i_iln (q := 33) H I_X8_luck_32 rfl rfl
        replace H := i_iln (q := 34) H I_X8_luck_33 rfl rfl
        have W := i_cv3 8 (q := 37) H I_X8_luck_34 K_8_224 Zm_164 rfl rfl
        clear H
        obtain ⟨r1, h1, Hc, K1, K2⟩ := W
        rw [zin_bt (lo := 0) (hi := 10) rfl rfl] at c_9
        rw [hc] at c_17
        rw [zin_bt (lo := 0) (hi := 1) rfl rfl] at c_27
        have hq : zBt v 0 10 ∧ zIs x c ∧ zBt w 0 1 := ⟨zif1 c_9, zif1 c_17, zif1 c_27⟩
        obtain ⟨k, k1, rfl⟩ := zbt_10 hq.1
        obtain ⟨u, u1, u2⟩ := gSm_all (y := x) k1 hg.1 ha ha8
        obtain ⟨e1, m9, e2⟩ := t_X8_byAway hP hg hpl ha ha8 hc hM u1 u2 Hc
        have H := K1 _ _ e1 e2
        clear e1 e2 Hc K1 K2
        replace H := i_goto (q := 43) H I_X8_luck_37 (by decide)
        obtain ⟨hr, hh⟩ := i_lr H I_X8_luck_43
        exact hr.trans (by rw [gLuck, if_pos hq, gMe_u u2 u1])
theorem pd_mean {m : zM} {r : Option Value} {h' : zHp} {x0 x1 : Int32} (ht : zTy m) (hR : RF m) (H : zEv none 19 zm_X7_mean (0, lv_args 0 [.ref 0, .int x0, .int x1], [], zhp m) r h') : ∃ m1 v, r = some (.long v) ∧ h' = zhp m1 ∧ zTy m1 ∧ ∀ r2 h2, zEv none 19 zm_X8_mean (0, lv_args 0 [.ref 71, .int x0, .int x1], [], zhp m1) r2 h2 → ∃ m2 v2, r2 = some (.long v2) ∧ h2 = zhp m2 ∧ zTy m2 ∧ RF m2 ∧ v = v2 := by
  have hR0 := hR
  obtain ⟨⟨_, hM, _, _, c, c1, ⟨hL, hb⟩, _⟩, _⟩ := hR
  have hg := gok_11 ht hL
  have hpl := gpl_0 ht
  obtain ⟨a, a6, a7, _⟩ := hL.2.2.2.2.2
  obtain ⟨m1, v, a1, a2, a3, a4⟩ := e_X7_mean ht H
  refine ⟨m1, v, a1, a2, a3, fun r2 h2 H2 => ?_⟩
  obtain ⟨m2, v2, b1, b2, b3, b4⟩ := e_X8_mean a3 H2
  refine ⟨m2, v2, b1, b2, b3, RF_f (RF_f hR0 a4 (by decide +kernel)) b4 (by decide +kernel), ?_⟩
  have hP1 : PG m1 0 (pgf m 0) := ⟨by omega, fun j hj => a4 72 (0 + j) (zpl_r LY_72 (by omega)) (ymd_c (by decide +kernel) _)⟩
  have hM1 : zMk m1 := ⟨(a4 73 0 ⟨_, LY_73, rfl⟩ (by decide +kernel)).trans hM.1, (a4 73 1 ⟨_, LY_73, rfl⟩ (by decide +kernel)).trans hM.2.1, (a4 73 2 ⟨_, LY_73, rfl⟩ (by decide +kernel)).trans hM.2.2.1, (a4 73 3 ⟨_, LY_73, rfl⟩ (by decide +kernel)).trans hM.2.2.2⟩
  have hc1 : m1 71 2 = Int32.ofNat c := (a4 71 2 ⟨_, LY_71, rfl⟩ (by decide +kernel)).trans c1
  have k1 := t_X7_mean hL hg a7 a6 (zE_of 3 rfl H)
  have k2 := t_X8_mean hP1 hg hpl a7 a6 hc1 hM1 (zE_of 0 rfl H2)
  rw [a1] at k1
  rw [b1] at k2
  cases k1
  cases k2
  rfl
theorem pd_luck {m : zM} {r : Option Value} {h' : zHp} {x0 x1 x2 : Int32} (ht : zTy m) (hR : RF m) (H : zEv none 19 zm_X7_luck (0, lv_args 0 [.ref 0, .int x0, .int x1, .int x2], [], zhp m) r h') : ∃ m1 v, r = some (.long v) ∧ h' = zhp m1 ∧ zTy m1 ∧ ∀ r2 h2, zEv none 19 zm_X8_luck (0, lv_args 0 [.ref 71, .int x0, .int x1, .int x2], [], zhp m1) r2 h2 → ∃ m2 v2, r2 = some (.long v2) ∧ h2 = zhp m2 ∧ zTy m2 ∧ RF m2 ∧ v = v2 := by
  have hR0 := hR
  obtain ⟨⟨_, hM, _, _, c, c1, ⟨hL, hb⟩, _⟩, _⟩ := hR
  have hg := gok_11 ht hL
  have hpl := gpl_0 ht
  obtain ⟨a, a6, a7, _⟩ := hL.2.2.2.2.2
  obtain ⟨m1, v, a1, a2, a3, a4⟩ := e_X7_luck ht H
  refine ⟨m1, v, a1, a2, a3, fun r2 h2 H2 => ?_⟩
  obtain ⟨m2, v2, b1, b2, b3, b4⟩ := e_X8_luck a3 H2
  refine ⟨m2, v2, b1, b2, b3, RF_f (RF_f hR0 a4 (by decide +kernel)) b4 (by decide +kernel), ?_⟩
  have hP1 : PG m1 0 (pgf m 0) := ⟨by omega, fun j hj => a4 72 (0 + j) (zpl_r LY_72 (by omega)) (ymd_c (by decide +kernel) _)⟩
  have hM1 : zMk m1 := ⟨(a4 73 0 ⟨_, LY_73, rfl⟩ (by decide +kernel)).trans hM.1, (a4 73 1 ⟨_, LY_73, rfl⟩ (by decide +kernel)).trans hM.2.1, (a4 73 2 ⟨_, LY_73, rfl⟩ (by decide +kernel)).trans hM.2.2.1, (a4 73 3 ⟨_, LY_73, rfl⟩ (by decide +kernel)).trans hM.2.2.2⟩
  have hc1 : m1 71 2 = Int32.ofNat c := (a4 71 2 ⟨_, LY_71, rfl⟩ (by decide +kernel)).trans c1
  have k1 := t_X7_luck hL hg a7 a6 (zE_of 3 rfl H)
  have k2 := t_X8_luck hP1 hg hpl a7 a6 hc1 hM1 (zE_of 0 rfl H2)
  rw [a1] at k1
  rw [b1] at k2
  cases k1
  cases k2
  rfl
