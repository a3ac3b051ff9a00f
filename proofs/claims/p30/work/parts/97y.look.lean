/-! look -/
theorem It_X6_addToTally : zm_X6_addToTally.2.2.2.2.2 = zt_X6_addToTally := by
  unfold zm_X6_addToTally
  rfl
theorem It_X6_clearTally : zm_X6_clearTally.2.2.2.2.2 = zt_X6_clearTally := by
  unfold zm_X6_clearTally
  rfl
theorem It_X6_worst : zm_X6_worst.2.2.2.2.2 = zt_X6_worst := by
  unfold zm_X6_worst
  rfl
theorem It_X7_look : zm_X7_look.2.2.2.2.2 = zt_X7_look := by
  unfold zm_X7_look
  rfl
theorem It_X7_tallyGuesses : zm_X7_tallyGuesses.2.2.2.2.2 = zt_X7_tallyGuesses := by
  unfold zm_X7_tallyGuesses
  rfl
theorem It_X8_look : zm_X8_look.2.2.2.2.2 = zt_X8_look := by
  unfold zm_X8_look
  rfl
theorem I_X6_addToTally_0 : zin zm_X6_addToTally.2.2.2.2.2 0 = some (.iconst 0, 1) := by rw [It_X6_addToTally]; rfl
theorem I_X6_addToTally_1 : zin zm_X6_addToTally.2.2.2.2.2 1 = some (.istore_n 2, 1) := by rw [It_X6_addToTally]; rfl
theorem I_X6_addToTally_2 : zin zm_X6_addToTally.2.2.2.2.2 2 = some (.iload_n 2, 1) := by rw [It_X6_addToTally]; rfl
theorem I_X6_addToTally_3 : zin zm_X6_addToTally.2.2.2.2.2 3 = some (.bipush 8, 2) := by rw [It_X6_addToTally]; rfl
theorem I_X6_addToTally_5 : zin zm_X6_addToTally.2.2.2.2.2 5 = some (.if_icmp .ge 41, 3) := by rw [It_X6_addToTally]; rfl
theorem I_X6_addToTally_8 : zin zm_X6_addToTally.2.2.2.2.2 8 = some (.aload_n 1, 1) := by rw [It_X6_addToTally]; rfl
theorem I_X6_addToTally_9 : zin zm_X6_addToTally.2.2.2.2.2 9 = some (.getfield 25, 3) := by rw [It_X6_addToTally]; rfl
theorem I_X6_addToTally_12 : zin zm_X6_addToTally.2.2.2.2.2 12 = some (.iload_n 2, 1) := by rw [It_X6_addToTally]; rfl
theorem I_X6_addToTally_13 : zin zm_X6_addToTally.2.2.2.2.2 13 = some (.iaload, 1) := by rw [It_X6_addToTally]; rfl
theorem I_X6_addToTally_14 : zin zm_X6_addToTally.2.2.2.2.2 14 = some (.istore_n 3, 1) := by rw [It_X6_addToTally]; rfl
theorem I_X6_addToTally_15 : zin zm_X6_addToTally.2.2.2.2.2 15 = some (.aload_n 0, 1) := by rw [It_X6_addToTally]; rfl
theorem I_X6_addToTally_16 : zin zm_X6_addToTally.2.2.2.2.2 16 = some (.getfield 18, 3) := by rw [It_X6_addToTally]; rfl
theorem I_X6_addToTally_19 : zin zm_X6_addToTally.2.2.2.2.2 19 = some (.iload_n 2, 1) := by rw [It_X6_addToTally]; rfl
theorem I_X6_addToTally_20 : zin zm_X6_addToTally.2.2.2.2.2 20 = some (.bipush 6, 2) := by rw [It_X6_addToTally]; rfl
theorem I_X6_addToTally_22 : zin zm_X6_addToTally.2.2.2.2.2 22 = some (.imul, 1) := by rw [It_X6_addToTally]; rfl
theorem I_X6_addToTally_23 : zin zm_X6_addToTally.2.2.2.2.2 23 = some (.iload_n 3, 1) := by rw [It_X6_addToTally]; rfl
theorem I_X6_addToTally_24 : zin zm_X6_addToTally.2.2.2.2.2 24 = some (.bipush (-4), 2) := by rw [It_X6_addToTally]; rfl
theorem I_X6_addToTally_26 : zin zm_X6_addToTally.2.2.2.2.2 26 = some (.if_icmp .ne 7, 3) := by rw [It_X6_addToTally]; rfl
theorem I_X6_addToTally_29 : zin zm_X6_addToTally.2.2.2.2.2 29 = some (.iconst 5, 1) := by rw [It_X6_addToTally]; rfl
theorem I_X6_addToTally_30 : zin zm_X6_addToTally.2.2.2.2.2 30 = some (.goto 4, 3) := by rw [It_X6_addToTally]; rfl
theorem I_X6_addToTally_33 : zin zm_X6_addToTally.2.2.2.2.2 33 = some (.iload_n 3, 1) := by rw [It_X6_addToTally]; rfl
theorem I_X6_addToTally_34 : zin zm_X6_addToTally.2.2.2.2.2 34 = some (.iadd, 1) := by rw [It_X6_addToTally]; rfl
theorem I_X6_addToTally_35 : zin zm_X6_addToTally.2.2.2.2.2 35 = some (.dup2, 1) := by rw [It_X6_addToTally]; rfl
theorem I_X6_addToTally_36 : zin zm_X6_addToTally.2.2.2.2.2 36 = some (.iaload, 1) := by rw [It_X6_addToTally]; rfl
theorem I_X6_addToTally_37 : zin zm_X6_addToTally.2.2.2.2.2 37 = some (.iconst 1, 1) := by rw [It_X6_addToTally]; rfl
theorem I_X6_addToTally_38 : zin zm_X6_addToTally.2.2.2.2.2 38 = some (.iadd, 1) := by rw [It_X6_addToTally]; rfl
theorem I_X6_addToTally_39 : zin zm_X6_addToTally.2.2.2.2.2 39 = some (.iastore, 1) := by rw [It_X6_addToTally]; rfl
theorem I_X6_addToTally_40 : zin zm_X6_addToTally.2.2.2.2.2 40 = some (.iinc 2 1, 3) := by rw [It_X6_addToTally]; rfl
theorem I_X6_addToTally_43 : zin zm_X6_addToTally.2.2.2.2.2 43 = some (.goto (-41), 3) := by rw [It_X6_addToTally]; rfl
theorem I_X6_addToTally_46 : zin zm_X6_addToTally.2.2.2.2.2 46 = some (.return_, 1) := by rw [It_X6_addToTally]; rfl
theorem I_X6_clearTally_0 : zin zm_X6_clearTally.2.2.2.2.2 0 = some (.aload_n 0, 1) := by rw [It_X6_clearTally]; rfl
theorem I_X6_clearTally_1 : zin zm_X6_clearTally.2.2.2.2.2 1 = some (.getfield 18, 3) := by rw [It_X6_clearTally]; rfl
theorem I_X6_clearTally_4 : zin zm_X6_clearTally.2.2.2.2.2 4 = some (.iconst 0, 1) := by rw [It_X6_clearTally]; rfl
theorem I_X6_clearTally_5 : zin zm_X6_clearTally.2.2.2.2.2 5 = some (.invokestatic 30, 3) := by rw [It_X6_clearTally]; rfl
theorem I_X6_clearTally_8 : zin zm_X6_clearTally.2.2.2.2.2 8 = some (.return_, 1) := by rw [It_X6_clearTally]; rfl
theorem I_X6_worst_0 : zin zm_X6_worst.2.2.2.2.2 0 = some (.iconst 0, 1) := by rw [It_X6_worst]; rfl
theorem I_X6_worst_1 : zin zm_X6_worst.2.2.2.2.2 1 = some (.istore_n 2, 1) := by rw [It_X6_worst]; rfl
theorem I_X6_worst_2 : zin zm_X6_worst.2.2.2.2.2 2 = some (.iconst 0, 1) := by rw [It_X6_worst]; rfl
theorem I_X6_worst_3 : zin zm_X6_worst.2.2.2.2.2 3 = some (.istore_n 3, 1) := by rw [It_X6_worst]; rfl
theorem I_X6_worst_4 : zin zm_X6_worst.2.2.2.2.2 4 = some (.iload_n 3, 1) := by rw [It_X6_worst]; rfl
theorem I_X6_worst_5 : zin zm_X6_worst.2.2.2.2.2 5 = some (.bipush 6, 2) := by rw [It_X6_worst]; rfl
theorem I_X6_worst_7 : zin zm_X6_worst.2.2.2.2.2 7 = some (.if_icmp .ge 25, 3) := by rw [It_X6_worst]; rfl
theorem I_X6_worst_10 : zin zm_X6_worst.2.2.2.2.2 10 = some (.iload_n 2, 1) := by rw [It_X6_worst]; rfl
theorem I_X6_worst_11 : zin zm_X6_worst.2.2.2.2.2 11 = some (.aload_n 0, 1) := by rw [It_X6_worst]; rfl
theorem I_X6_worst_12 : zin zm_X6_worst.2.2.2.2.2 12 = some (.getfield 18, 3) := by rw [It_X6_worst]; rfl
theorem I_X6_worst_15 : zin zm_X6_worst.2.2.2.2.2 15 = some (.iload_n 1, 1) := by rw [It_X6_worst]; rfl
theorem I_X6_worst_16 : zin zm_X6_worst.2.2.2.2.2 16 = some (.bipush 6, 2) := by rw [It_X6_worst]; rfl
theorem I_X6_worst_18 : zin zm_X6_worst.2.2.2.2.2 18 = some (.imul, 1) := by rw [It_X6_worst]; rfl
theorem I_X6_worst_19 : zin zm_X6_worst.2.2.2.2.2 19 = some (.iload_n 3, 1) := by rw [It_X6_worst]; rfl
theorem I_X6_worst_20 : zin zm_X6_worst.2.2.2.2.2 20 = some (.iadd, 1) := by rw [It_X6_worst]; rfl
theorem I_X6_worst_21 : zin zm_X6_worst.2.2.2.2.2 21 = some (.iaload, 1) := by rw [It_X6_worst]; rfl
theorem I_X6_worst_22 : zin zm_X6_worst.2.2.2.2.2 22 = some (.invokestatic 36, 3) := by rw [It_X6_worst]; rfl
theorem I_X6_worst_25 : zin zm_X6_worst.2.2.2.2.2 25 = some (.istore_n 2, 1) := by rw [It_X6_worst]; rfl
theorem I_X6_worst_26 : zin zm_X6_worst.2.2.2.2.2 26 = some (.iinc 3 1, 3) := by rw [It_X6_worst]; rfl
theorem I_X6_worst_29 : zin zm_X6_worst.2.2.2.2.2 29 = some (.goto (-25), 3) := by rw [It_X6_worst]; rfl
theorem I_X6_worst_32 : zin zm_X6_worst.2.2.2.2.2 32 = some (.iload_n 2, 1) := by rw [It_X6_worst]; rfl
theorem I_X6_worst_33 : zin zm_X6_worst.2.2.2.2.2 33 = some (.ireturn, 1) := by rw [It_X6_worst]; rfl
theorem I_X7_look_0 : zin zm_X7_look.2.2.2.2.2 0 = some (.aload_n 0, 1) := by rw [It_X7_look]; rfl
theorem I_X7_look_1 : zin zm_X7_look.2.2.2.2.2 1 = some (.getfield 19, 3) := by rw [It_X7_look]; rfl
theorem I_X7_look_4 : zin zm_X7_look.2.2.2.2.2 4 = some (.iload_n 1, 1) := by rw [It_X7_look]; rfl
theorem I_X7_look_5 : zin zm_X7_look.2.2.2.2.2 5 = some (.invokevirtual 112, 3) := by rw [It_X7_look]; rfl
theorem I_X7_look_8 : zin zm_X7_look.2.2.2.2.2 8 = some (.ifCond .eq 12, 3) := by rw [It_X7_look]; rfl
theorem I_X7_look_11 : zin zm_X7_look.2.2.2.2.2 11 = some (.iload_n 2, 1) := by rw [It_X7_look]; rfl
theorem I_X7_look_12 : zin zm_X7_look.2.2.2.2.2 12 = some (.ifCond .lt 8, 3) := by rw [It_X7_look]; rfl
theorem I_X7_look_15 : zin zm_X7_look.2.2.2.2.2 15 = some (.iload_n 2, 1) := by rw [It_X7_look]; rfl
theorem I_X7_look_16 : zin zm_X7_look.2.2.2.2.2 16 = some (.iconst 1, 1) := by rw [It_X7_look]; rfl
theorem I_X7_look_17 : zin zm_X7_look.2.2.2.2.2 17 = some (.if_icmp .le 5, 3) := by rw [It_X7_look]; rfl
theorem I_X7_look_20 : zin zm_X7_look.2.2.2.2.2 20 = some (.iconst (-1), 1) := by rw [It_X7_look]; rfl
theorem I_X7_look_21 : zin zm_X7_look.2.2.2.2.2 21 = some (.ireturn, 1) := by rw [It_X7_look]; rfl
theorem I_X7_look_22 : zin zm_X7_look.2.2.2.2.2 22 = some (.bipush (-4), 2) := by rw [It_X7_look]; rfl
theorem I_X7_look_24 : zin zm_X7_look.2.2.2.2.2 24 = some (.istore_n 3, 1) := by rw [It_X7_look]; rfl
theorem I_X7_look_25 : zin zm_X7_look.2.2.2.2.2 25 = some (.aload_n 0, 1) := by rw [It_X7_look]; rfl
theorem I_X7_look_26 : zin zm_X7_look.2.2.2.2.2 26 = some (.iload_n 1, 1) := by rw [It_X7_look]; rfl
theorem I_X7_look_27 : zin zm_X7_look.2.2.2.2.2 27 = some (.invokevirtual 247, 3) := by rw [It_X7_look]; rfl
theorem I_X7_look_30 : zin zm_X7_look.2.2.2.2.2 30 = some (.istore 4, 2) := by rw [It_X7_look]; rfl
theorem I_X7_look_32 : zin zm_X7_look.2.2.2.2.2 32 = some (.iconst 0, 1) := by rw [It_X7_look]; rfl
theorem I_X7_look_33 : zin zm_X7_look.2.2.2.2.2 33 = some (.istore 5, 2) := by rw [It_X7_look]; rfl
theorem I_X7_look_35 : zin zm_X7_look.2.2.2.2.2 35 = some (.iload 5, 2) := by rw [It_X7_look]; rfl
theorem I_X7_look_37 : zin zm_X7_look.2.2.2.2.2 37 = some (.aload_n 0, 1) := by rw [It_X7_look]; rfl
theorem I_X7_look_38 : zin zm_X7_look.2.2.2.2.2 38 = some (.getfield 19, 3) := by rw [It_X7_look]; rfl
theorem I_X7_look_41 : zin zm_X7_look.2.2.2.2.2 41 = some (.getfield 99, 3) := by rw [It_X7_look]; rfl
theorem I_X7_look_44 : zin zm_X7_look.2.2.2.2.2 44 = some (.if_icmp .ge 34, 3) := by rw [It_X7_look]; rfl
theorem I_X7_look_47 : zin zm_X7_look.2.2.2.2.2 47 = some (.aload_n 0, 1) := by rw [It_X7_look]; rfl
theorem I_X7_look_48 : zin zm_X7_look.2.2.2.2.2 48 = some (.getfield 40, 3) := by rw [It_X7_look]; rfl
theorem I_X7_look_51 : zin zm_X7_look.2.2.2.2.2 51 = some (.iload 5, 2) := by rw [It_X7_look]; rfl
theorem I_X7_look_53 : zin zm_X7_look.2.2.2.2.2 53 = some (.invokevirtual 250, 3) := by rw [It_X7_look]; rfl
theorem I_X7_look_56 : zin zm_X7_look.2.2.2.2.2 56 = some (.istore 6, 2) := by rw [It_X7_look]; rfl
theorem I_X7_look_58 : zin zm_X7_look.2.2.2.2.2 58 = some (.iload 6, 2) := by rw [It_X7_look]; rfl
theorem I_X7_look_60 : zin zm_X7_look.2.2.2.2.2 60 = some (.iload 4, 2) := by rw [It_X7_look]; rfl
theorem I_X7_look_62 : zin zm_X7_look.2.2.2.2.2 62 = some (.if_icmp .ge 10, 3) := by rw [It_X7_look]; rfl
theorem I_X7_look_65 : zin zm_X7_look.2.2.2.2.2 65 = some (.iload 6, 2) := by rw [It_X7_look]; rfl
theorem I_X7_look_67 : zin zm_X7_look.2.2.2.2.2 67 = some (.istore 4, 2) := by rw [It_X7_look]; rfl
theorem I_X7_look_69 : zin zm_X7_look.2.2.2.2.2 69 = some (.iload 5, 2) := by rw [It_X7_look]; rfl
theorem I_X7_look_71 : zin zm_X7_look.2.2.2.2.2 71 = some (.istore_n 3, 1) := by rw [It_X7_look]; rfl
theorem I_X7_look_72 : zin zm_X7_look.2.2.2.2.2 72 = some (.iinc 5 1, 3) := by rw [It_X7_look]; rfl
theorem I_X7_look_75 : zin zm_X7_look.2.2.2.2.2 75 = some (.goto (-40), 3) := by rw [It_X7_look]; rfl
theorem I_X7_look_78 : zin zm_X7_look.2.2.2.2.2 78 = some (.iload_n 2, 1) := by rw [It_X7_look]; rfl
theorem I_X7_look_79 : zin zm_X7_look.2.2.2.2.2 79 = some (.ifCond .eq 9, 3) := by rw [It_X7_look]; rfl
theorem I_X7_look_82 : zin zm_X7_look.2.2.2.2.2 82 = some (.iload_n 3, 1) := by rw [It_X7_look]; rfl
theorem I_X7_look_83 : zin zm_X7_look.2.2.2.2.2 83 = some (.bipush (-4), 2) := by rw [It_X7_look]; rfl
theorem I_X7_look_85 : zin zm_X7_look.2.2.2.2.2 85 = some (.if_icmp .ne 7, 3) := by rw [It_X7_look]; rfl
theorem I_X7_look_88 : zin zm_X7_look.2.2.2.2.2 88 = some (.iload_n 3, 1) := by rw [It_X7_look]; rfl
theorem I_X7_look_89 : zin zm_X7_look.2.2.2.2.2 89 = some (.goto 5, 3) := by rw [It_X7_look]; rfl
theorem I_X7_look_92 : zin zm_X7_look.2.2.2.2.2 92 = some (.iload 4, 2) := by rw [It_X7_look]; rfl
theorem I_X7_look_94 : zin zm_X7_look.2.2.2.2.2 94 = some (.ireturn, 1) := by rw [It_X7_look]; rfl
theorem I_X7_tallyGuesses_0 : zin zm_X7_tallyGuesses.2.2.2.2.2 0 = some (.iconst 0, 1) := by rw [It_X7_tallyGuesses]; rfl
theorem I_X7_tallyGuesses_1 : zin zm_X7_tallyGuesses.2.2.2.2.2 1 = some (.istore_n 2, 1) := by rw [It_X7_tallyGuesses]; rfl
theorem I_X7_tallyGuesses_2 : zin zm_X7_tallyGuesses.2.2.2.2.2 2 = some (.aload_n 0, 1) := by rw [It_X7_tallyGuesses]; rfl
theorem I_X7_tallyGuesses_3 : zin zm_X7_tallyGuesses.2.2.2.2.2 3 = some (.getfield 40, 3) := by rw [It_X7_tallyGuesses]; rfl
theorem I_X7_tallyGuesses_6 : zin zm_X7_tallyGuesses.2.2.2.2.2 6 = some (.invokevirtual 253, 3) := by rw [It_X7_tallyGuesses]; rfl
theorem I_X7_tallyGuesses_9 : zin zm_X7_tallyGuesses.2.2.2.2.2 9 = some (.iconst 0, 1) := by rw [It_X7_tallyGuesses]; rfl
theorem I_X7_tallyGuesses_10 : zin zm_X7_tallyGuesses.2.2.2.2.2 10 = some (.istore_n 3, 1) := by rw [It_X7_tallyGuesses]; rfl
theorem I_X7_tallyGuesses_11 : zin zm_X7_tallyGuesses.2.2.2.2.2 11 = some (.iload_n 3, 1) := by rw [It_X7_tallyGuesses]; rfl
theorem I_X7_tallyGuesses_12 : zin zm_X7_tallyGuesses.2.2.2.2.2 12 = some (.bipush 20, 2) := by rw [It_X7_tallyGuesses]; rfl
theorem I_X7_tallyGuesses_14 : zin zm_X7_tallyGuesses.2.2.2.2.2 14 = some (.if_icmp .gt 44, 3) := by rw [It_X7_tallyGuesses]; rfl
theorem I_X7_tallyGuesses_17 : zin zm_X7_tallyGuesses.2.2.2.2.2 17 = some (.aload_n 0, 1) := by rw [It_X7_tallyGuesses]; rfl
theorem I_X7_tallyGuesses_18 : zin zm_X7_tallyGuesses.2.2.2.2.2 18 = some (.iload_n 1, 1) := by rw [It_X7_tallyGuesses]; rfl
theorem I_X7_tallyGuesses_19 : zin zm_X7_tallyGuesses.2.2.2.2.2 19 = some (.iload_n 3, 1) := by rw [It_X7_tallyGuesses]; rfl
theorem I_X7_tallyGuesses_20 : zin zm_X7_tallyGuesses.2.2.2.2.2 20 = some (.invokevirtual 204, 3) := by rw [It_X7_tallyGuesses]; rfl
theorem I_X7_tallyGuesses_23 : zin zm_X7_tallyGuesses.2.2.2.2.2 23 = some (.pop, 1) := by rw [It_X7_tallyGuesses]; rfl
theorem I_X7_tallyGuesses_24 : zin zm_X7_tallyGuesses.2.2.2.2.2 24 = some (.aload_n 0, 1) := by rw [It_X7_tallyGuesses]; rfl
theorem I_X7_tallyGuesses_25 : zin zm_X7_tallyGuesses.2.2.2.2.2 25 = some (.getfield 40, 3) := by rw [It_X7_tallyGuesses]; rfl
theorem I_X7_tallyGuesses_28 : zin zm_X7_tallyGuesses.2.2.2.2.2 28 = some (.aload_n 0, 1) := by rw [It_X7_tallyGuesses]; rfl
theorem I_X7_tallyGuesses_29 : zin zm_X7_tallyGuesses.2.2.2.2.2 29 = some (.getfield 26, 3) := by rw [It_X7_tallyGuesses]; rfl
theorem I_X7_tallyGuesses_32 : zin zm_X7_tallyGuesses.2.2.2.2.2 32 = some (.invokevirtual 243, 3) := by rw [It_X7_tallyGuesses]; rfl
theorem I_X7_tallyGuesses_35 : zin zm_X7_tallyGuesses.2.2.2.2.2 35 = some (.ifCond .eq 17, 3) := by rw [It_X7_tallyGuesses]; rfl
theorem I_X7_tallyGuesses_38 : zin zm_X7_tallyGuesses.2.2.2.2.2 38 = some (.iinc 2 1, 3) := by rw [It_X7_tallyGuesses]; rfl
theorem I_X7_tallyGuesses_41 : zin zm_X7_tallyGuesses.2.2.2.2.2 41 = some (.aload_n 0, 1) := by rw [It_X7_tallyGuesses]; rfl
theorem I_X7_tallyGuesses_42 : zin zm_X7_tallyGuesses.2.2.2.2.2 42 = some (.getfield 40, 3) := by rw [It_X7_tallyGuesses]; rfl
theorem I_X7_tallyGuesses_45 : zin zm_X7_tallyGuesses.2.2.2.2.2 45 = some (.aload_n 0, 1) := by rw [It_X7_tallyGuesses]; rfl
theorem I_X7_tallyGuesses_46 : zin zm_X7_tallyGuesses.2.2.2.2.2 46 = some (.getfield 26, 3) := by rw [It_X7_tallyGuesses]; rfl
theorem I_X7_tallyGuesses_49 : zin zm_X7_tallyGuesses.2.2.2.2.2 49 = some (.invokevirtual 256, 3) := by rw [It_X7_tallyGuesses]; rfl
theorem I_X7_tallyGuesses_52 : zin zm_X7_tallyGuesses.2.2.2.2.2 52 = some (.iinc 3 1, 3) := by rw [It_X7_tallyGuesses]; rfl
theorem I_X7_tallyGuesses_55 : zin zm_X7_tallyGuesses.2.2.2.2.2 55 = some (.goto (-44), 3) := by rw [It_X7_tallyGuesses]; rfl
theorem I_X7_tallyGuesses_58 : zin zm_X7_tallyGuesses.2.2.2.2.2 58 = some (.iload_n 2, 1) := by rw [It_X7_tallyGuesses]; rfl
theorem I_X7_tallyGuesses_59 : zin zm_X7_tallyGuesses.2.2.2.2.2 59 = some (.ireturn, 1) := by rw [It_X7_tallyGuesses]; rfl
theorem I_X8_look_0 : zin zm_X8_look.2.2.2.2.2 0 = some (.aload_n 0, 1) := by rw [It_X8_look]; rfl
theorem I_X8_look_1 : zin zm_X8_look.2.2.2.2.2 1 = some (.iload_n 1, 1) := by rw [It_X8_look]; rfl
theorem I_X8_look_2 : zin zm_X8_look.2.2.2.2.2 2 = some (.invokevirtual 151, 3) := by rw [It_X8_look]; rfl
theorem I_X8_look_5 : zin zm_X8_look.2.2.2.2.2 5 = some (.ifCond .eq 13, 3) := by rw [It_X8_look]; rfl
theorem I_X8_look_8 : zin zm_X8_look.2.2.2.2.2 8 = some (.iload_n 2, 1) := by rw [It_X8_look]; rfl
theorem I_X8_look_9 : zin zm_X8_look.2.2.2.2.2 9 = some (.i2l, 1) := by rw [It_X8_look]; rfl
theorem I_X8_look_10 : zin zm_X8_look.2.2.2.2.2 10 = some (.lconst 0, 1) := by rw [It_X8_look]; rfl
theorem I_X8_look_11 : zin zm_X8_look.2.2.2.2.2 11 = some (.lconst 1, 1) := by rw [It_X8_look]; rfl
theorem I_X8_look_12 : zin zm_X8_look.2.2.2.2.2 12 = some (.invokestatic 55, 3) := by rw [It_X8_look]; rfl
theorem I_X8_look_15 : zin zm_X8_look.2.2.2.2.2 15 = some (.ifCond .ne 5, 3) := by rw [It_X8_look]; rfl
theorem I_X8_look_18 : zin zm_X8_look.2.2.2.2.2 18 = some (.iconst (-1), 1) := by rw [It_X8_look]; rfl
theorem I_X8_look_19 : zin zm_X8_look.2.2.2.2.2 19 = some (.ireturn, 1) := by rw [It_X8_look]; rfl
theorem I_X8_look_20 : zin zm_X8_look.2.2.2.2.2 20 = some (.aload_n 0, 1) := by rw [It_X8_look]; rfl
theorem I_X8_look_21 : zin zm_X8_look.2.2.2.2.2 21 = some (.iload_n 1, 1) := by rw [It_X8_look]; rfl
theorem I_X8_look_22 : zin zm_X8_look.2.2.2.2.2 22 = some (.invokevirtual 236, 3) := by rw [It_X8_look]; rfl
theorem I_X8_look_25 : zin zm_X8_look.2.2.2.2.2 25 = some (.istore_n 3, 1) := by rw [It_X8_look]; rfl
theorem I_X8_look_26 : zin zm_X8_look.2.2.2.2.2 26 = some (.bipush (-4), 2) := by rw [It_X8_look]; rfl
theorem I_X8_look_28 : zin zm_X8_look.2.2.2.2.2 28 = some (.istore 4, 2) := by rw [It_X8_look]; rfl
theorem I_X8_look_30 : zin zm_X8_look.2.2.2.2.2 30 = some (.iconst 0, 1) := by rw [It_X8_look]; rfl
theorem I_X8_look_31 : zin zm_X8_look.2.2.2.2.2 31 = some (.istore 5, 2) := by rw [It_X8_look]; rfl
theorem I_X8_look_33 : zin zm_X8_look.2.2.2.2.2 33 = some (.iload 5, 2) := by rw [It_X8_look]; rfl
theorem I_X8_look_35 : zin zm_X8_look.2.2.2.2.2 35 = some (.aload_n 0, 1) := by rw [It_X8_look]; rfl
theorem I_X8_look_36 : zin zm_X8_look.2.2.2.2.2 36 = some (.getfield 7, 3) := by rw [It_X8_look]; rfl
theorem I_X8_look_39 : zin zm_X8_look.2.2.2.2.2 39 = some (.bipush 26, 2) := by rw [It_X8_look]; rfl
theorem I_X8_look_41 : zin zm_X8_look.2.2.2.2.2 41 = some (.iaload, 1) := by rw [It_X8_look]; rfl
theorem I_X8_look_42 : zin zm_X8_look.2.2.2.2.2 42 = some (.if_icmp .ge 132, 3) := by rw [It_X8_look]; rfl
theorem I_X8_look_45 : zin zm_X8_look.2.2.2.2.2 45 = some (.iconst 0, 1) := by rw [It_X8_look]; rfl
theorem I_X8_look_46 : zin zm_X8_look.2.2.2.2.2 46 = some (.istore 6, 2) := by rw [It_X8_look]; rfl
theorem I_X8_look_48 : zin zm_X8_look.2.2.2.2.2 48 = some (.bipush (-4), 2) := by rw [It_X8_look]; rfl
theorem I_X8_look_50 : zin zm_X8_look.2.2.2.2.2 50 = some (.istore 7, 2) := by rw [It_X8_look]; rfl
theorem I_X8_look_52 : zin zm_X8_look.2.2.2.2.2 52 = some (.iload 7, 2) := by rw [It_X8_look]; rfl
theorem I_X8_look_54 : zin zm_X8_look.2.2.2.2.2 54 = some (.aload_n 0, 1) := by rw [It_X8_look]; rfl
theorem I_X8_look_55 : zin zm_X8_look.2.2.2.2.2 55 = some (.getfield 131, 3) := by rw [It_X8_look]; rfl
theorem I_X8_look_58 : zin zm_X8_look.2.2.2.2.2 58 = some (.if_icmp .ge 82, 3) := by rw [It_X8_look]; rfl
theorem I_X8_look_61 : zin zm_X8_look.2.2.2.2.2 61 = some (.iconst 0, 1) := by rw [It_X8_look]; rfl
theorem I_X8_look_62 : zin zm_X8_look.2.2.2.2.2 62 = some (.istore 8, 2) := by rw [It_X8_look]; rfl
theorem I_X8_look_64 : zin zm_X8_look.2.2.2.2.2 64 = some (.iconst 0, 1) := by rw [It_X8_look]; rfl
theorem I_X8_look_65 : zin zm_X8_look.2.2.2.2.2 65 = some (.istore 9, 2) := by rw [It_X8_look]; rfl
theorem I_X8_look_67 : zin zm_X8_look.2.2.2.2.2 67 = some (.iload 9, 2) := by rw [It_X8_look]; rfl
theorem I_X8_look_69 : zin zm_X8_look.2.2.2.2.2 69 = some (.bipush 20, 2) := by rw [It_X8_look]; rfl
theorem I_X8_look_71 : zin zm_X8_look.2.2.2.2.2 71 = some (.if_icmp .gt 47, 3) := by rw [It_X8_look]; rfl
theorem I_X8_look_74 : zin zm_X8_look.2.2.2.2.2 74 = some (.iload 8, 2) := by rw [It_X8_look]; rfl
theorem I_X8_look_76 : zin zm_X8_look.2.2.2.2.2 76 = some (.aload_n 0, 1) := by rw [It_X8_look]; rfl
theorem I_X8_look_77 : zin zm_X8_look.2.2.2.2.2 77 = some (.getfield 37, 3) := by rw [It_X8_look]; rfl
theorem I_X8_look_80 : zin zm_X8_look.2.2.2.2.2 80 = some (.iload 9, 2) := by rw [It_X8_look]; rfl
theorem I_X8_look_82 : zin zm_X8_look.2.2.2.2.2 82 = some (.baload, 1) := by rw [It_X8_look]; rfl
theorem I_X8_look_83 : zin zm_X8_look.2.2.2.2.2 83 = some (.ifCond .eq 25, 3) := by rw [It_X8_look]; rfl
theorem I_X8_look_86 : zin zm_X8_look.2.2.2.2.2 86 = some (.aload_n 0, 1) := by rw [It_X8_look]; rfl
theorem I_X8_look_87 : zin zm_X8_look.2.2.2.2.2 87 = some (.getfield 34, 3) := by rw [It_X8_look]; rfl
theorem I_X8_look_90 : zin zm_X8_look.2.2.2.2.2 90 = some (.bipush 8, 2) := by rw [It_X8_look]; rfl
theorem I_X8_look_92 : zin zm_X8_look.2.2.2.2.2 92 = some (.iload 9, 2) := by rw [It_X8_look]; rfl
theorem I_X8_look_94 : zin zm_X8_look.2.2.2.2.2 94 = some (.imul, 1) := by rw [It_X8_look]; rfl
theorem I_X8_look_95 : zin zm_X8_look.2.2.2.2.2 95 = some (.iload 5, 2) := by rw [It_X8_look]; rfl
theorem I_X8_look_97 : zin zm_X8_look.2.2.2.2.2 97 = some (.iadd, 1) := by rw [It_X8_look]; rfl
theorem I_X8_look_98 : zin zm_X8_look.2.2.2.2.2 98 = some (.iaload, 1) := by rw [It_X8_look]; rfl
theorem I_X8_look_99 : zin zm_X8_look.2.2.2.2.2 99 = some (.iload 7, 2) := by rw [It_X8_look]; rfl
theorem I_X8_look_101 : zin zm_X8_look.2.2.2.2.2 101 = some (.if_icmp .ne 7, 3) := by rw [It_X8_look]; rfl
theorem I_X8_look_104 : zin zm_X8_look.2.2.2.2.2 104 = some (.iconst 1, 1) := by rw [It_X8_look]; rfl
theorem I_X8_look_105 : zin zm_X8_look.2.2.2.2.2 105 = some (.goto 4, 3) := by rw [It_X8_look]; rfl
theorem I_X8_look_108 : zin zm_X8_look.2.2.2.2.2 108 = some (.iconst 0, 1) := by rw [It_X8_look]; rfl
theorem I_X8_look_109 : zin zm_X8_look.2.2.2.2.2 109 = some (.iadd, 1) := by rw [It_X8_look]; rfl
theorem I_X8_look_110 : zin zm_X8_look.2.2.2.2.2 110 = some (.istore 8, 2) := by rw [It_X8_look]; rfl
theorem I_X8_look_112 : zin zm_X8_look.2.2.2.2.2 112 = some (.iinc 9 1, 3) := by rw [It_X8_look]; rfl
theorem I_X8_look_115 : zin zm_X8_look.2.2.2.2.2 115 = some (.goto (-48), 3) := by rw [It_X8_look]; rfl
theorem I_X8_look_118 : zin zm_X8_look.2.2.2.2.2 118 = some (.iload 8, 2) := by rw [It_X8_look]; rfl
theorem I_X8_look_120 : zin zm_X8_look.2.2.2.2.2 120 = some (.iload 6, 2) := by rw [It_X8_look]; rfl
theorem I_X8_look_122 : zin zm_X8_look.2.2.2.2.2 122 = some (.if_icmp .le 8, 3) := by rw [It_X8_look]; rfl
theorem I_X8_look_125 : zin zm_X8_look.2.2.2.2.2 125 = some (.iload 8, 2) := by rw [It_X8_look]; rfl
theorem I_X8_look_127 : zin zm_X8_look.2.2.2.2.2 127 = some (.goto 5, 3) := by rw [It_X8_look]; rfl
theorem I_X8_look_130 : zin zm_X8_look.2.2.2.2.2 130 = some (.iload 6, 2) := by rw [It_X8_look]; rfl
theorem I_X8_look_132 : zin zm_X8_look.2.2.2.2.2 132 = some (.istore 6, 2) := by rw [It_X8_look]; rfl
theorem I_X8_look_134 : zin zm_X8_look.2.2.2.2.2 134 = some (.iinc 7 1, 3) := by rw [It_X8_look]; rfl
theorem I_X8_look_137 : zin zm_X8_look.2.2.2.2.2 137 = some (.goto (-85), 3) := by rw [It_X8_look]; rfl
theorem I_X8_look_140 : zin zm_X8_look.2.2.2.2.2 140 = some (.iload 6, 2) := by rw [It_X8_look]; rfl
theorem I_X8_look_142 : zin zm_X8_look.2.2.2.2.2 142 = some (.iload_n 3, 1) := by rw [It_X8_look]; rfl
theorem I_X8_look_143 : zin zm_X8_look.2.2.2.2.2 143 = some (.if_icmp .ge 8, 3) := by rw [It_X8_look]; rfl
theorem I_X8_look_146 : zin zm_X8_look.2.2.2.2.2 146 = some (.iload 5, 2) := by rw [It_X8_look]; rfl
theorem I_X8_look_148 : zin zm_X8_look.2.2.2.2.2 148 = some (.goto 5, 3) := by rw [It_X8_look]; rfl
theorem I_X8_look_151 : zin zm_X8_look.2.2.2.2.2 151 = some (.iload 4, 2) := by rw [It_X8_look]; rfl
theorem I_X8_look_153 : zin zm_X8_look.2.2.2.2.2 153 = some (.istore 4, 2) := by rw [It_X8_look]; rfl
theorem I_X8_look_155 : zin zm_X8_look.2.2.2.2.2 155 = some (.iload 6, 2) := by rw [It_X8_look]; rfl
theorem I_X8_look_157 : zin zm_X8_look.2.2.2.2.2 157 = some (.iload_n 3, 1) := by rw [It_X8_look]; rfl
theorem I_X8_look_158 : zin zm_X8_look.2.2.2.2.2 158 = some (.if_icmp .ge 8, 3) := by rw [It_X8_look]; rfl
theorem I_X8_look_161 : zin zm_X8_look.2.2.2.2.2 161 = some (.iload 6, 2) := by rw [It_X8_look]; rfl
theorem I_X8_look_163 : zin zm_X8_look.2.2.2.2.2 163 = some (.goto 4, 3) := by rw [It_X8_look]; rfl
theorem I_X8_look_166 : zin zm_X8_look.2.2.2.2.2 166 = some (.iload_n 3, 1) := by rw [It_X8_look]; rfl
theorem I_X8_look_167 : zin zm_X8_look.2.2.2.2.2 167 = some (.istore_n 3, 1) := by rw [It_X8_look]; rfl
theorem I_X8_look_168 : zin zm_X8_look.2.2.2.2.2 168 = some (.iinc 5 1, 3) := by rw [It_X8_look]; rfl
theorem I_X8_look_171 : zin zm_X8_look.2.2.2.2.2 171 = some (.goto (-138), 3) := by rw [It_X8_look]; rfl
theorem I_X8_look_174 : zin zm_X8_look.2.2.2.2.2 174 = some (.iload 4, 2) := by rw [It_X8_look]; rfl
theorem I_X8_look_176 : zin zm_X8_look.2.2.2.2.2 176 = some (.bipush (-4), 2) := by rw [It_X8_look]; rfl
theorem I_X8_look_178 : zin zm_X8_look.2.2.2.2.2 178 = some (.if_icmp .eq 7, 3) := by rw [It_X8_look]; rfl
theorem I_X8_look_181 : zin zm_X8_look.2.2.2.2.2 181 = some (.iload_n 2, 1) := by rw [It_X8_look]; rfl
theorem I_X8_look_182 : zin zm_X8_look.2.2.2.2.2 182 = some (.ifCond .ne 8, 3) := by rw [It_X8_look]; rfl
theorem I_X8_look_185 : zin zm_X8_look.2.2.2.2.2 185 = some (.iload 4, 2) := by rw [It_X8_look]; rfl
theorem I_X8_look_187 : zin zm_X8_look.2.2.2.2.2 187 = some (.goto 4, 3) := by rw [It_X8_look]; rfl
theorem I_X8_look_190 : zin zm_X8_look.2.2.2.2.2 190 = some (.iload_n 3, 1) := by rw [It_X8_look]; rfl
theorem I_X8_look_191 : zin zm_X8_look.2.2.2.2.2 191 = some (.ireturn, 1) := by rw [It_X8_look]; rfl
theorem G_6_18 : zlk zfls 6 18 = some (6, 2, 262) := rfl
theorem K_6_30 : zlk zmls 6 30 = some (1, 193, 2, 765) := rfl
theorem K_6_36 : zlk zmls 6 36 = some (5, 0, 2, 774) := rfl
theorem K_7_247 : zlk zmls 7 247 = some (0, 104, 1, 757) := rfl
theorem K_7_250 : zlk zmls 7 250 = some (0, 63, 1, 770) := rfl
theorem K_7_253 : zlk zmls 7 253 = some (0, 61, 0, 761) := rfl
theorem K_7_256 : zlk zmls 7 256 = some (0, 62, 1, 766) := rfl
theorem Zm_61 : zms[61]? = some zm_X6_clearTally := rfl
theorem Zm_62 : zms[62]? = some zm_X6_addToTally := rfl
theorem Zm_63 : zms[63]? = some zm_X6_worst := rfl
theorem Zm_104 : zms[104]? = some zm_X7_tallyGuesses := rfl
theorem LY_43 : zLY[43]? = some (Sum.inl 0, List.replicate 48 none) := rfl
theorem cl_X6_addToTally : zm_X6_addToTally.2.2.2.2.1 = 6 := by
  unfold zm_X6_addToTally
  rfl
theorem cn_X6_addToTally : zm_X6_addToTally.2.2.2.2.1 ≠ 12 := by
  rw [cl_X6_addToTally]
  decide
theorem cn2_X6_addToTally : zm_X6_addToTally.2.2.2.2.1 ≠ 2 := by
  rw [cl_X6_addToTally]
  decide
theorem cl_X6_clearTally : zm_X6_clearTally.2.2.2.2.1 = 6 := by
  unfold zm_X6_clearTally
  rfl
theorem cn_X6_clearTally : zm_X6_clearTally.2.2.2.2.1 ≠ 12 := by
  rw [cl_X6_clearTally]
  decide
theorem cn2_X6_clearTally : zm_X6_clearTally.2.2.2.2.1 ≠ 2 := by
  rw [cl_X6_clearTally]
  decide
theorem cl_X6_worst : zm_X6_worst.2.2.2.2.1 = 6 := by
  unfold zm_X6_worst
  rfl
theorem cn_X6_worst : zm_X6_worst.2.2.2.2.1 ≠ 12 := by
  rw [cl_X6_worst]
  decide
theorem cn2_X6_worst : zm_X6_worst.2.2.2.2.1 ≠ 2 := by
  rw [cl_X6_worst]
  decide
theorem cl_X7_look : zm_X7_look.2.2.2.2.1 = 7 := by
  unfold zm_X7_look
  rfl
theorem cn_X7_look : zm_X7_look.2.2.2.2.1 ≠ 12 := by
  rw [cl_X7_look]
  decide
theorem cn2_X7_look : zm_X7_look.2.2.2.2.1 ≠ 2 := by
  rw [cl_X7_look]
  decide
theorem cl_X7_tallyGuesses : zm_X7_tallyGuesses.2.2.2.2.1 = 7 := by
  unfold zm_X7_tallyGuesses
  rfl
theorem cn_X7_tallyGuesses : zm_X7_tallyGuesses.2.2.2.2.1 ≠ 12 := by
  rw [cl_X7_tallyGuesses]
  decide
theorem cn2_X7_tallyGuesses : zm_X7_tallyGuesses.2.2.2.2.1 ≠ 2 := by
  rw [cl_X7_tallyGuesses]
  decide
theorem cl_X8_look : zm_X8_look.2.2.2.2.1 = 8 := by
  unfold zm_X8_look
  rfl
theorem cn_X8_look : zm_X8_look.2.2.2.2.1 ≠ 12 := by
  rw [cl_X8_look]
  decide
theorem cn2_X8_look : zm_X8_look.2.2.2.2.1 ≠ 2 := by
  rw [cl_X8_look]
  decide
/-- whom an act let in, as a number from 0 to 5 -/
def zou (e : Int32) : Nat := if e = -4 then 5 else e.toNatClampNeg
def zEb (c : Nat) (e : Int32) : Prop := e = -4 ∨ ∃ w, w < c ∧ e = Int32.ofNat w
theorem zEb_l {c : Nat} {e : Int32} (hc : c ≤ 5) (h : zEb c e) : zou e < 6 ∧ (¬ e = -4 → zou e < c ∧ e = Int32.ofNat (zou e)) := by
  unfold zou
  rcases h with h | ⟨w, w1, rfl⟩
  · rw [if_pos h]
    exact ⟨by omega, fun q => absurd h q⟩
  · have h4 : ¬ Int32.ofNat w = -4 := fun q => by
      have q2 := congrArg Int32.toInt q
      rw [zofn_t (by omega)] at q2
      have e4 : (-4 : Int32).toInt = -4 := rfl
      omega
    rw [if_neg h4, Int32.toNatClampNeg_ofNat_of_lt (by omega)]
    exact ⟨by omega, fun _ => ⟨w1, rfl⟩⟩
theorem gTry1_b {g : Nat → Int32} {c : Nat} {s : Int32} (hc : c ≤ 5) : zEb c (gTry1 g c s) := by
  unfold gTry1
  split
  · exact Or.inl rfl
  · exact zwb_r (gcn g) s c hc
theorem pAct_b {c i : Nat} {mk : Int32} {P : zPy} (hc : c ≤ 5) (h : ∀ k, zEb c (P.2.2.2.2 k)) : ∀ k, zEb c ((pAct c mk i P).2.2.2.2 k) := by
  intro k
  unfold pAct
  split
  · exact h k
  · split
    · exact h k
    · show zEb c (gset P.2.2.2.2 i (gTry1 P.1 c (P.1 (18 + i) &&& mk)) k)
      by_cases e : k = i
      · rw [e, gset_s]; exact gTry1_b hc
      · rw [gset_n e]; exact h k
theorem pPlays_b {c : Nat} {mk : Int32} (hc : c ≤ 5) : ∀ (n i : Nat) (P : zPy), (∀ k, zEb c (P.2.2.2.2 k)) → ∀ k, zEb c ((pPlays c mk n i P).2.2.2.2 k)
  | 0, _, _, h => h
  | n + 1, i, P, h => pPlays_b hc n (i + 1) _ (pAct_b hc h)
theorem gPl_b {c : Nat} {g : Nat → Int32} (hc : c ≤ 5) (k : Nat) : zEb c ((gPl c g).2.2.2.2 k) := pPlays_b hc (zna g) 0 (zPy0 g) (fun _ => Or.inl rfl) k
theorem gCv_b {c p v : Nat} {g : Nat → Int32} (hc : c ≤ 5) (k : Nat) : zEb c ((gCv c g p v).2.2.2.2 k) := gPl_b hc k
theorem gN_g {f u : Nat → Bool} : ∀ (j i : Nat) (n : Int32), (∀ k, f k = u k) → gN f j i n = gN u j i n
  | 0, _, _, _ => rfl
  | j + 1, i, n, h => by rw [gN, gN, h i, gN_g j (i + 1) _ h, gN_g j (i + 1) _ h]
theorem gN_0 {f : Nat → Bool} : ∀ (j i : Nat) (n : Int32), (∀ k, f k = false) → gN f j i n = n
  | 0, _, _, _ => rfl
  | j + 1, i, n, h => by rw [gN, if_neg (by rw [h i]; decide), gN_0 j (i + 1) n h]
theorem zmax_t {x y : Int32} : (zmax x y).toInt = max x.toInt y.toInt := by
  unfold zmax
  by_cases h : x < y
  · rw [if_pos h]
    rw [Int32.lt_iff_toInt_lt] at h
    omega
  · rw [if_neg h]
    rw [Int32.lt_iff_toInt_lt] at h
    omega
/-- how many fit, and let this one in -/
def gTo (c : Nat) (g sa sw : Nat → Int32) (s p i o : Nat) (v : Nat) : Bool := gCt c g sa sw s p v && decide (zou ((gCv c g p v).2.2.2.2 i) = o)
def gTw (c : Nat) (g sa sw : Nat → Int32) (s p i : Nat) (x : Int32) (v : Nat) : Bool := gCt c g sa sw s p v && decide ((gCv c g p v).2.2.2.2 i = x)
def zwo (t : Nat → Int32) : Nat → Int32
  | 0 => 0
  | n + 1 => zmax (zwo t n) (t n)
theorem t_X6_clearTally {d : Nat} {m : zM} {r : Option Value} {h' : zHp} (H : zE none d zm_X6_clearTally 0 [.ref 40] [] m r h') : ∃ m1, r = none ∧ h' = zhp m1 ∧ (∀ i, i < 48 → m1 43 i = 0) ∧ ∀ x y, ¬ x = 43 → m1 x y = m x y := by
  replace H := i_aln (q := 1) H I_X6_clearTally_0 rfl rfl
  replace H := i_gfr (q := 4) H I_X6_clearTally_1 G_6_18 cn_X6_clearTally LY_40 rfl rfl
  replace H := i_icst (x := 0) (q := 5) H I_X6_clearTally_4 (by decide) rfl
  have W := i_cs2 2 (q := 8) H I_X6_clearTally_5 K_6_30 Zm_193 rfl rfl
  clear H
  obtain ⟨r1, h1, Hc, K1, K2⟩ := W
  obtain ⟨M_5, e1, e2, F_5⟩ := t_fill (n := 48) LY_43 (by omega) Hc
  have H := K2 _ e1 e2
  clear e1 e2 Hc K1 K2
  obtain ⟨hr, hh⟩ := i_rt H I_X6_clearTally_8
  exact ⟨M_5, hr, hh, F_5.1, fun x y h => F_5.2 x y (by omega)⟩
theorem ad_loop {c : Nat} {E : Nat → Int32} (hc5 : c ≤ 5) (hB : ∀ k, zEb c (E k)) : ∀ (j i d : Nat) (r : Option Value) (h' : zHp) (m : zM), i + j = 8 → (∀ k, k < 8 → m 28 k = E k) → zE none d zm_X6_addToTally 2 [.ref 40, .ref 19, .int (Int32.ofNat i), .null] [] m r h' → ∃ m1, r = none ∧ h' = zhp m1 ∧ (∀ i', i ≤ i' → i' < 8 → ∀ o, o < 6 → m1 43 (6 * i' + o) = m 43 (6 * i' + o) + (if zou (E i') = o then 1 else 0)) ∧ ∀ x y, ¬ (x = 43 ∧ 6 * i ≤ y) → m1 x y = m x y := by
  intro j
  induction j with
  | zero =>
    intro i d r h' m hj hE H
    replace H := i_iln (q := 3) H I_X6_addToTally_2 rfl rfl
    replace H := i_bip (x := 8) (q := 5) H I_X6_addToTally_3 (by decide) rfl
    have W := i_ic_ge (t := 46) (q := 8) H I_X6_addToTally_5 (by decide) rfl
    clear H
    rcases W with ⟨c_5, H⟩ | ⟨c_5, H⟩
    · skip
      obtain ⟨hr, hh⟩ := i_rt H I_X6_addToTally_46
      exact ⟨m, hr, hh, fun i' h1 h2 o ho => by omega, fun _ _ _ => rfl⟩
    · exfalso
      exact absurd ((zofn_lt (j := 8) (by omega) (by decide)).mp c_5) (by omega)
  | succ j ih =>
    intro i d r h' m hj hE H
    replace H := i_iln (q := 3) H I_X6_addToTally_2 rfl rfl
    replace H := i_bip (x := 8) (q := 5) H I_X6_addToTally_3 (by decide) rfl
    have W := i_ic_ge (t := 46) (q := 8) H I_X6_addToTally_5 (by decide) rfl
    clear H
    rcases W with ⟨c_5, H⟩ | ⟨c_5, H⟩
    · exfalso
      exact c_5 ((zofn_lt (j := 8) (by omega) (by decide)).mpr (by omega))
    · skip
      replace H := i_aln (q := 9) H I_X6_addToTally_8 rfl rfl
      replace H := i_gfr (q := 12) H I_X6_addToTally_9 G_6_25 cn_X6_addToTally LY_19 rfl rfl
      replace H := i_iln (q := 13) H I_X6_addToTally_12 rfl rfl
      have W := i_ia (q := 14) H I_X6_addToTally_13 LY_28 rfl
      clear H
      obtain ⟨i_13, bi_13, ei_13, H⟩ := W
      replace H := i_isn (q := 15) H I_X6_addToTally_14 rfl rfl
      replace H := i_aln (q := 16) H I_X6_addToTally_15 rfl rfl
      replace H := i_gfr (q := 19) H I_X6_addToTally_16 G_6_18 cn_X6_addToTally LY_40 rfl rfl
      replace H := i_iln (q := 20) H I_X6_addToTally_19 rfl rfl
      replace H := i_bip (x := 6) (q := 22) H I_X6_addToTally_20 (by decide) rfl
      replace H := i_imul (q := 23) H I_X6_addToTally_22 rfl
      replace H := i_iln (q := 24) H I_X6_addToTally_23 rfl rfl
      replace H := i_bip (x := (-4)) (q := 26) H I_X6_addToTally_24 (by decide) rfl
      have W := i_ic_ne (t := 33) (q := 29) H I_X6_addToTally_26 (by decide) rfl
      clear H
      rcases W with ⟨c_26, H⟩ | ⟨c_26, H⟩
      · skip
        replace H := i_iln (q := 34) H I_X6_addToTally_33 rfl rfl
        replace H := i_iadd (q := 35) H I_X6_addToTally_34 rfl
        replace H := i_dup2 (q := 36) H I_X6_addToTally_35 rfl rfl rfl
        have W := i_ia (q := 37) H I_X6_addToTally_36 LY_43 rfl
        clear H
        obtain ⟨i_36, bi_36, ei_36, H⟩ := W
        replace H := i_icst (x := 1) (q := 38) H I_X6_addToTally_37 (by decide) rfl
        replace H := i_iadd (q := 39) H I_X6_addToTally_38 rfl
        have W := i_iast (q := 40) H I_X6_addToTally_39 LY_43 rfl
        clear H
        obtain ⟨i_39, bi_39, ei_39, H⟩ := W
        replace H := i_inc (q := 43) H I_X6_addToTally_40 rfl rfl rfl
        replace H := i_goto (q := 2) H I_X6_addToTally_43 (by decide)
        have e13 : i = i_13 := zofn ei_13 (by omega) (by omega)
        subst e13
        rw [hE i (by omega)] at c_26 ei_36 ei_39
        obtain ⟨b1, b2⟩ := zEb_l hc5 (hB i)
        obtain ⟨b3, b4⟩ := b2 c_26
        have e36 : i_36 = 6 * i + zou (E i) := by
          have h := zofn (i := 6 * i + zou (E i)) (j := i_36) (by rw [Int32.ofNat_add, Nat.mul_comm, Int32.ofNat_mul, ← b4]; exact ei_36) (by omega) (by omega)
          exact h.symm
        have e39 : i_39 = 6 * i + zou (E i) := by
          have h := zofn (i := 6 * i + zou (E i)) (j := i_39) (by rw [Int32.ofNat_add, Nat.mul_comm, Int32.ofNat_mul, ← b4]; exact ei_39) (by omega) (by omega)
          exact h.symm
        subst e36
        subst e39
        replace H := i_w [true, true, true, false] H
        replace H : zE none d zm_X6_addToTally 2 [.ref 40, .ref 19, .int (Int32.ofNat (i + 1)), .null] [] (zup m 43 (6 * i + zou (E i)) (m 43 (6 * i + zou (E i)) + 1)) r h' := by
          rw [← zofn_s]
          exact H
        obtain ⟨m1, x1, x2, x3, x4⟩ := ih (i + 1) d r h' _ (by omega) (fun k hk => by rw [zup_n (by omega)]; exact hE k hk) H
        refine ⟨m1, x1, x2, fun i' h1 h2 o ho => ?_, fun x y h => ?_⟩
        · by_cases e : i' = i
          · subst e
            rw [x4 43 _ (fun q => by omega)]
            by_cases eo : zou (E i') = o
            · rw [if_pos eo, ← eo, zup_s]
            · rw [if_neg eo, zup_n (by omega), Int32.add_zero]
          · rw [x3 i' (by omega) h2 o ho, zup_n (by omega)]
        · rw [x4 x y (by omega), zup_n (by omega)]
      · skip
        replace H := i_icst (x := 5) (q := 30) H I_X6_addToTally_29 (by decide) rfl
        replace H := i_goto (q := 34) H I_X6_addToTally_30 (by decide)
        replace H := i_iadd (q := 35) H I_X6_addToTally_34 rfl
        replace H := i_dup2 (q := 36) H I_X6_addToTally_35 rfl rfl rfl
        have W := i_ia (q := 37) H I_X6_addToTally_36 LY_43 rfl
        clear H
        obtain ⟨i_36, bi_36, ei_36, H⟩ := W
        replace H := i_icst (x := 1) (q := 38) H I_X6_addToTally_37 (by decide) rfl
        replace H := i_iadd (q := 39) H I_X6_addToTally_38 rfl
        have W := i_iast (q := 40) H I_X6_addToTally_39 LY_43 rfl
        clear H
        obtain ⟨i_39, bi_39, ei_39, H⟩ := W
        replace H := i_inc (q := 43) H I_X6_addToTally_40 rfl rfl rfl
        replace H := i_goto (q := 2) H I_X6_addToTally_43 (by decide)
        have e13 : i = i_13 := zofn ei_13 (by omega) (by omega)
        subst e13
        rw [hE i (by omega)] at c_26
        obtain ⟨b1, b2⟩ := zEb_l hc5 (hB i)
        have ho : zou (E i) = 5 := by unfold zou; rw [if_pos c_26]
        have e36 : i_36 = 6 * i + zou (E i) := by
          rw [ho]
          have h := zofn (i := 6 * i + 5) (j := i_36) (by rw [Int32.ofNat_add, Nat.mul_comm, Int32.ofNat_mul]; exact ei_36) (by omega) (by omega)
          exact h.symm
        have e39 : i_39 = 6 * i + zou (E i) := by
          rw [ho]
          have h := zofn (i := 6 * i + 5) (j := i_39) (by rw [Int32.ofNat_add, Nat.mul_comm, Int32.ofNat_mul]; exact ei_39) (by omega) (by omega)
          exact h.symm
        subst e36
        subst e39
        replace H := i_w [true, true, true, false] H
        replace H : zE none d zm_X6_addToTally 2 [.ref 40, .ref 19, .int (Int32.ofNat (i + 1)), .null] [] (zup m 43 (6 * i + zou (E i)) (m 43 (6 * i + zou (E i)) + 1)) r h' := by
          rw [← zofn_s]
          exact H
        obtain ⟨m1, x1, x2, x3, x4⟩ := ih (i + 1) d r h' _ (by omega) (fun k hk => by rw [zup_n (by omega)]; exact hE k hk) H
        refine ⟨m1, x1, x2, fun i' h1 h2 o ho => ?_, fun x y h => ?_⟩
        · by_cases e : i' = i
          · subst e
            rw [x4 43 _ (fun q => by omega)]
            by_cases eo : zou (E i') = o
            · rw [if_pos eo, ← eo, zup_s]
            · rw [if_neg eo, zup_n (by omega), Int32.add_zero]
          · rw [x3 i' (by omega) h2 o ho, zup_n (by omega)]
        · rw [x4 x y (by omega), zup_n (by omega)]
theorem t_X6_addToTally {d : Nat} {m : zM} {r : Option Value} {h' : zHp} {c : Nat} {E : Nat → Int32} (hc5 : c ≤ 5) (hB : ∀ k, zEb c (E k)) (hE : ∀ k, k < 8 → m 28 k = E k) (H : zE none d zm_X6_addToTally 0 [.ref 40, .ref 19, .null, .null] [] m r h') : ∃ m1, r = none ∧ h' = zhp m1 ∧ (∀ i, i < 8 → ∀ o, o < 6 → m1 43 (6 * i + o) = m 43 (6 * i + o) + (if zou (E i) = o then 1 else 0)) ∧ ∀ x y, ¬ x = 43 → m1 x y = m x y := by
  replace H := i_icst (x := 0) (q := 1) H I_X6_addToTally_0 (by decide) rfl
  replace H := i_isn (q := 2) H I_X6_addToTally_1 rfl rfl
  obtain ⟨m1, x1, x2, x3, x4⟩ := ad_loop hc5 hB 8 0 d r h' m rfl hE H
  exact ⟨m1, x1, x2, fun i hi o ho => x3 i (by omega) hi o ho, fun x y h => x4 x y (fun q => h q.1)⟩
theorem tg_loop {c s p : Nat} {g sa sw : Nat → Int32} (hg : gok g c) (hp : p < c) : ∀ (j i : Nat) (n : Int32) (tl : Nat → Nat → Int32) (d : Nat) (r : Option Value) (h' : zHp) (m : zM), i + j = 21 → LV m 11 c g → cS m s sa sw → (∀ k, k < 8 → ∀ o, o < 6 → m 43 (6 * k + o) = tl k o) → zE none d zm_X7_tallyGuesses 11 [.ref 0, .int (Int32.ofNat p), .int n, .int (Int32.ofNat i)] [] m r h' → ∃ m1, r = some (.int (gN (gCt c g sa sw s p) j i n)) ∧ h' = zhp m1 ∧ (∀ k, k < 8 → ∀ o, o < 6 → m1 43 (6 * k + o) = gN (gTo c g sa sw s p k o) j i (tl k o)) ∧ ∀ x y, ¬ (19 ≤ x ∧ x ≤ 28) → ¬ x = 43 → m1 x y = m x y := by
  intro j
  induction j with
  | zero =>
    intro i n tl d r h' m hj hL hS hT H
    replace H := i_iln (q := 12) H I_X7_tallyGuesses_11 rfl rfl
    replace H := i_bip (x := 20) (q := 14) H I_X7_tallyGuesses_12 (by decide) rfl
    have W := i_ic_gt (t := 58) (q := 17) H I_X7_tallyGuesses_14 (by decide) rfl
    clear H
    rcases W with ⟨c_14, H⟩ | ⟨c_14, H⟩
    · skip
      replace H := i_iln (q := 59) H I_X7_tallyGuesses_58 rfl rfl
      obtain ⟨hr, hh⟩ := i_ir H I_X7_tallyGuesses_59
      exact ⟨m, hr, hh, hT, fun _ _ _ _ => rfl⟩
    · exfalso
      exact c_14 ((zofn_lt (i := 20) (by decide) (by omega)).mpr (by omega))
  | succ j ih =>
    intro i n tl d r h' m hj hL hS hT H
    replace H := i_iln (q := 12) H I_X7_tallyGuesses_11 rfl rfl
    replace H := i_bip (x := 20) (q := 14) H I_X7_tallyGuesses_12 (by decide) rfl
    have W := i_ic_gt (t := 58) (q := 17) H I_X7_tallyGuesses_14 (by decide) rfl
    clear H
    rcases W with ⟨c_14, H⟩ | ⟨c_14, H⟩
    · exfalso
      exact absurd ((zofn_lt (i := 20) (by decide) (by omega)).mp c_14) (by omega)
    · skip
      replace H := i_aln (q := 18) H I_X7_tallyGuesses_17 rfl rfl
      replace H := i_iln (q := 19) H I_X7_tallyGuesses_18 rfl rfl
      replace H := i_iln (q := 20) H I_X7_tallyGuesses_19 rfl rfl
      have W := i_cv2 0 (q := 23) H I_X7_tallyGuesses_20 K_7_204 Zm_88 rfl rfl
      clear H
      obtain ⟨r1, h1, Hc, K1, K2⟩ := W
      obtain ⟨M_20, e1, e2, F_20⟩ := t_X7_rehearseWith (p := p) hL hg hp (z_20 (by omega)) Hc
      have H := K1 _ _ e1 e2
      clear e1 e2 Hc K1 K2
      replace H := i_pop (q := 24) H I_X7_tallyGuesses_23 rfl rfl
      replace H := i_aln (q := 25) H I_X7_tallyGuesses_24 rfl rfl
      replace H := i_gfr (q := 28) H I_X7_tallyGuesses_25 G_7_40 cn_X7_tallyGuesses LY_0 rfl rfl
      replace H := i_aln (q := 29) H I_X7_tallyGuesses_28 rfl rfl
      replace H := i_gfr (q := 32) H I_X7_tallyGuesses_29 G_7_26 cn_X7_tallyGuesses LY_0 rfl rfl
      have W := i_cv1 1 (q := 35) H I_X7_tallyGuesses_32 K_7_243 Zm_60 rfl rfl
      clear H
      obtain ⟨r1, h1, Hc, K1, K2⟩ := W
      obtain ⟨e1, e2⟩ := t_X6_fits (cS_f hS (fun a b h1 h2 => F_20.2 a b (by omega))) F_20.1.2.2.2.2 Hc
      have H := K1 _ _ e1 e2
      clear e1 e2 Hc K1 K2
      have W := i_if_eq (t := 52) (q := 38) H I_X7_tallyGuesses_35 (by decide) rfl
      clear H
      rcases W with ⟨c_35, H⟩ | ⟨c_35, H⟩
      · skip
        replace H := i_inc (q := 55) H I_X7_tallyGuesses_52 rfl rfl rfl
        replace H := i_goto (q := 11) H I_X7_tallyGuesses_55 (by decide)
        have hf : ¬ gCt c g sa sw s p i = true := zif0 c_35
        have E : ∀ x y, ¬ (19 ≤ x ∧ x ≤ 28) → ¬ x = 43 → M_20 x y = m x y := fun x y h1 h2 => F_20.2 x y h1
        have hT1 : ∀ k, k < 8 → ∀ o, o < 6 → M_20 43 (6 * k + o) = (if gTo c g sa sw s p k o i = true then tl k o + 1 else tl k o) := fun k hk o ho => by
          rw [F_20.2 _ _ (by omega), hT k hk o ho, if_neg]
          unfold gTo
          rw [Bool.and_eq_true]
          exact fun q => hf q.1
        replace H : zE none d zm_X7_tallyGuesses 11 [.ref 0, .int (Int32.ofNat p), .int n, .int (Int32.ofNat (i + 1))] [] M_20 r h' := by
          rw [← zofn_s]
          exact H
        rw [gN, if_neg hf]
        obtain ⟨m1, x1, x2, x3, x4⟩ := ih (i + 1) n _ d r h' M_20 (by omega) (LV_f hL (fun a b h1 h2 => E a b (by omega) (by omega))) (cS_f hS (fun a b h1 h2 => E a b (by omega) (by omega))) hT1 H
        refine ⟨m1, x1, x2, fun k hk o ho => ?_, fun x y h1 h2 => (x4 x y h1 h2).trans (E x y h1 h2)⟩
        rw [x3 k hk o ho, gN]
        split <;> rfl
      · skip
        replace H := i_inc (q := 41) H I_X7_tallyGuesses_38 rfl rfl rfl
        replace H := i_aln (q := 42) H I_X7_tallyGuesses_41 rfl rfl
        replace H := i_gfr (q := 45) H I_X7_tallyGuesses_42 G_7_40 cn_X7_tallyGuesses LY_0 rfl rfl
        replace H := i_aln (q := 46) H I_X7_tallyGuesses_45 rfl rfl
        replace H := i_gfr (q := 49) H I_X7_tallyGuesses_46 G_7_26 cn_X7_tallyGuesses LY_0 rfl rfl
        have W := i_cv1 2 (q := 52) H I_X7_tallyGuesses_49 K_7_256 Zm_62 rfl rfl
        clear H
        obtain ⟨r1, h1, Hc, K1, K2⟩ := W
        obtain ⟨M_49, e1, e2, F_49⟩ := t_X6_addToTally hg.1 (fun k => gPl_b hg.1 k) F_20.1.2.2.2.2 Hc
        have H := K2 _ e1 e2
        clear e1 e2 Hc K1 K2
        replace H := i_inc (q := 55) H I_X7_tallyGuesses_52 rfl rfl rfl
        replace H := i_goto (q := 11) H I_X7_tallyGuesses_55 (by decide)
        have hf :  gCt c g sa sw s p i = true := zif1 c_35
        have E : ∀ x y, ¬ (19 ≤ x ∧ x ≤ 28) → ¬ x = 43 → M_49 x y = m x y := fun x y h1 h2 => (F_49.2 x y h2).trans (F_20.2 x y h1)
        have hT1 : ∀ k, k < 8 → ∀ o, o < 6 → M_49 43 (6 * k + o) = (if gTo c g sa sw s p k o i = true then tl k o + 1 else tl k o) := fun k hk o ho => by
          rw [F_49.1 k hk o ho, F_20.2 _ _ (by omega), hT k hk o ho]
          unfold gTo
          rw [hf, Bool.true_and]
          by_cases e : zou ((gCv c g p i).2.2.2.2 k) = o
          · rw [if_pos (show zou ((gPl c (gset g (gat g p) (Int32.ofNat i))).2.2.2.2 k) = o from e), if_pos (decide_eq_true e)]
          · rw [if_neg (show ¬ zou ((gPl c (gset g (gat g p) (Int32.ofNat i))).2.2.2.2 k) = o from e), if_neg (by rw [decide_eq_false e]; decide), Int32.add_zero]
        replace H : zE none d zm_X7_tallyGuesses 11 [.ref 0, .int (Int32.ofNat p), .int (n + 1), .int (Int32.ofNat (i + 1))] [] M_49 r h' := by
          rw [← zofn_s]
          exact H
        rw [gN, if_pos hf]
        obtain ⟨m1, x1, x2, x3, x4⟩ := ih (i + 1) (n + 1) _ d r h' M_49 (by omega) (LV_f hL (fun a b h1 h2 => E a b (by omega) (by omega))) (cS_f hS (fun a b h1 h2 => E a b (by omega) (by omega))) hT1 H
        refine ⟨m1, x1, x2, fun k hk o ho => ?_, fun x y h1 h2 => (x4 x y h1 h2).trans (E x y h1 h2)⟩
        rw [x3 k hk o ho, gN]
        split <;> rfl
theorem t_X7_tallyGuesses {d : Nat} {m : zM} {r : Option Value} {h' : zHp} {c s p : Nat} {g sa sw : Nat → Int32} (hL : LV m 11 c g) (hg : gok g c) (hS : cS m s sa sw) (hp : p < c) (H : zE none d zm_X7_tallyGuesses 0 [.ref 0, .int (Int32.ofNat p), .null, .null] [] m r h') : ∃ m1, r = some (.int (gN (gCt c g sa sw s p) 21 0 0)) ∧ h' = zhp m1 ∧ (∀ k, k < 8 → ∀ o, o < 6 → m1 43 (6 * k + o) = gN (gTo c g sa sw s p k o) 21 0 0) ∧ ∀ x y, ¬ (19 ≤ x ∧ x ≤ 28) → ¬ x = 43 → m1 x y = m x y := by
  replace H := i_icst (x := 0) (q := 1) H I_X7_tallyGuesses_0 (by decide) rfl
  replace H := i_isn (q := 2) H I_X7_tallyGuesses_1 rfl rfl
  replace H := i_aln (q := 3) H I_X7_tallyGuesses_2 rfl rfl
  replace H := i_gfr (q := 6) H I_X7_tallyGuesses_3 G_7_40 cn_X7_tallyGuesses LY_0 rfl rfl
  have W := i_cv0 0 (q := 9) H I_X7_tallyGuesses_6 K_7_253 Zm_61 rfl rfl
  clear H
  obtain ⟨r1, h1, Hc, K1, K2⟩ := W
  obtain ⟨M_6, e1, e2, F_6⟩ := t_X6_clearTally Hc
  have H := K2 _ e1 e2
  clear e1 e2 Hc K1 K2
  replace H := i_icst (x := 0) (q := 10) H I_X7_tallyGuesses_9 (by decide) rfl
  replace H := i_isn (q := 11) H I_X7_tallyGuesses_10 rfl rfl
  obtain ⟨m1, x1, x2, x3, x4⟩ := tg_loop hg hp 21 0 0 (fun _ _ => 0) d r h' M_6 rfl (LV_f hL (fun a b h1 h2 => F_6.2 a b (by omega))) (cS_f hS (fun a b h1 h2 => F_6.2 a b (by omega))) (fun k hk o ho => F_6.1 _ (by omega)) H
  exact ⟨m1, x1, x2, x3, fun x y h1 h2 => (x4 x y h1 h2).trans (F_6.2 x y h2)⟩
theorem wo_loop {m : zM} {i : Nat} {t : Nat → Int32} (hi : i < 8) (hT : ∀ o, o < 6 → m 43 (6 * i + o) = t o) : ∀ (j o d : Nat) (r : Option Value) (h' : zHp), o + j = 6 → zE none d zm_X6_worst 4 [.ref 40, .int (Int32.ofNat i), .int (zwo t o), .int (Int32.ofNat o)] [] m r h' → r = some (.int (zwo t 6)) ∧ h' = zhp m := by
  intro j
  induction j with
  | zero =>
    intro o d r h' hj H
    replace H := i_iln (q := 5) H I_X6_worst_4 rfl rfl
    replace H := i_bip (x := 6) (q := 7) H I_X6_worst_5 (by decide) rfl
    have W := i_ic_ge (t := 32) (q := 10) H I_X6_worst_7 (by decide) rfl
    clear H
    rcases W with ⟨c_7, H⟩ | ⟨c_7, H⟩
    · skip
      replace H := i_iln (q := 33) H I_X6_worst_32 rfl rfl
      obtain ⟨hr, hh⟩ := i_ir H I_X6_worst_33
      have e : o = 6 := by omega
      subst e
      exact ⟨hr, hh⟩
    · exfalso
      exact absurd ((zofn_lt (j := 6) (by omega) (by decide)).mp c_7) (by omega)
  | succ j ih =>
    intro o d r h' hj H
    replace H := i_iln (q := 5) H I_X6_worst_4 rfl rfl
    replace H := i_bip (x := 6) (q := 7) H I_X6_worst_5 (by decide) rfl
    have W := i_ic_ge (t := 32) (q := 10) H I_X6_worst_7 (by decide) rfl
    clear H
    rcases W with ⟨c_7, H⟩ | ⟨c_7, H⟩
    · exfalso
      exact c_7 ((zofn_lt (j := 6) (by omega) (by decide)).mpr (by omega))
    · skip
      replace H := i_iln (q := 11) H I_X6_worst_10 rfl rfl
      replace H := i_aln (q := 12) H I_X6_worst_11 rfl rfl
      replace H := i_gfr (q := 15) H I_X6_worst_12 G_6_18 cn_X6_worst LY_40 rfl rfl
      replace H := i_iln (q := 16) H I_X6_worst_15 rfl rfl
      replace H := i_bip (x := 6) (q := 18) H I_X6_worst_16 (by decide) rfl
      replace H := i_imul (q := 19) H I_X6_worst_18 rfl
      replace H := i_iln (q := 20) H I_X6_worst_19 rfl rfl
      replace H := i_iadd (q := 21) H I_X6_worst_20 rfl
      have W := i_ia (q := 22) H I_X6_worst_21 LY_43 rfl
      clear H
      obtain ⟨i_21, bi_21, ei_21, H⟩ := W
      replace H := i_max (q := 25) H I_X6_worst_22 K_6_36 rfl
      replace H := i_isn (q := 26) H I_X6_worst_25 rfl rfl
      replace H := i_inc (q := 29) H I_X6_worst_26 rfl rfl rfl
      replace H := i_goto (q := 4) H I_X6_worst_29 (by decide)
      have e21 : i_21 = 6 * i + o := by
        have h := zofn (i := 6 * i + o) (j := i_21) (by rw [Int32.ofNat_add, Nat.mul_comm, Int32.ofNat_mul]; exact ei_21) (by omega) (by omega)
        exact h.symm
      subst e21
      rw [hT o (by omega)] at H
      replace H : zE none d zm_X6_worst 4 [.ref 40, .int (Int32.ofNat i), .int (zwo t (o + 1)), .int (Int32.ofNat (o + 1))] [] m r h' := by
        rw [← zofn_s]
        exact H
      exact ih (o + 1) d r h' (by omega) H
theorem t_X6_worst {d : Nat} {m : zM} {r : Option Value} {h' : zHp} {i : Nat} {t : Nat → Int32} (hi : i < 8) (hT : ∀ o, o < 6 → m 43 (6 * i + o) = t o) (H : zE none d zm_X6_worst 0 [.ref 40, .int (Int32.ofNat i), .null, .null] [] m r h') : r = some (.int (zwo t 6)) ∧ h' = zhp m := by
  replace H := i_icst (x := 0) (q := 1) H I_X6_worst_0 (by decide) rfl
  replace H := i_isn (q := 2) H I_X6_worst_1 rfl rfl
  replace H := i_icst (x := 0) (q := 3) H I_X6_worst_2 (by decide) rfl
  replace H := i_isn (q := 4) H I_X6_worst_3 rfl rfl
  exact wo_loop hi hT 6 0 d r h' rfl H
def gBl (f : Nat → Int32) : Nat → Nat → Int32 → Int32 → Int32 × Int32
  | 0, _, b, mo => (b, mo)
  | j + 1, i, b, mo => if f i < mo then gBl f j (i + 1) (Int32.ofNat i) (f i) else gBl f j (i + 1) b mo
def gWo (c : Nat) (g sa sw : Nat → Int32) (s p i : Nat) : Int32 := zwo (fun o => gN (gTo c g sa sw s p i o) 21 0 0) 6
def gLook (c a : Nat) (g sa sw : Nat → Int32) (s p : Nat) (w : Int32) : Int32 := if zBt w 0 1 then gW2 w (gBl (gWo c g sa sw s p) a 0 (-4) (gN (gCt c g sa sw s p) 21 0 0)) else -1
theorem lk_7 {m : zM} {c a s p : Nat} {x w : Int32} {g sa sw : Nat → Int32} (ha8 : a ≤ 8) (h3 : m 11 3 = Int32.ofNat a) (hT : ∀ k, k < 8 → ∀ o, o < 6 → m 43 (6 * k + o) = gN (gTo c g sa sw s p k o) 21 0 0) : ∀ (j i : Nat) (b mo : Int32) (d : Nat) (r : Option Value) (h' : zHp), i + j = a → zE none d zm_X7_look 35 [.ref 0, .int x, .int w, .int b, .int mo, .int (Int32.ofNat i), .null] [] m r h' → r = some (.int (gW2 w (gBl (gWo c g sa sw s p) j i b mo))) := by
  intro j
  induction j with
  | zero =>
    intro i b mo d r h' hj H
    replace H := i_il (q := 37) H I_X7_look_35 rfl rfl
    replace H := i_aln (q := 38) H I_X7_look_37 rfl rfl
    replace H := i_gfr (q := 41) H I_X7_look_38 G_7_19 cn_X7_look LY_0 rfl rfl
    replace H := i_gfi (q := 44) H I_X7_look_41 G_7_99 cn_X7_look LY_11 rfl rfl
    have W := i_ic_ge (t := 78) (q := 47) H I_X7_look_44 (by decide) rfl
    clear H
    rcases W with ⟨c_44, H⟩ | ⟨c_44, H⟩
    · skip
      replace H := i_iln (q := 79) H I_X7_look_78 rfl rfl
      have W := i_if_eq (t := 88) (q := 82) H I_X7_look_79 (by decide) rfl
      clear H
      rcases W with ⟨c_79, H⟩ | ⟨c_79, H⟩
      · skip
        replace H := i_iln (q := 89) H I_X7_look_88 rfl rfl
        replace H := i_goto (q := 94) H I_X7_look_89 (by decide)
        obtain ⟨hr, hh⟩ := i_ir H I_X7_look_94
        exact hr.trans (by rw [gBl, gW2_0 c_79])
      · skip
        replace H := i_iln (q := 83) H I_X7_look_82 rfl rfl
        replace H := i_bip (x := (-4)) (q := 85) H I_X7_look_83 (by decide) rfl
        have W := i_ic_ne (t := 92) (q := 88) H I_X7_look_85 (by decide) rfl
        clear H
        rcases W with ⟨c_85, H⟩ | ⟨c_85, H⟩
        · skip
          replace H := i_il (q := 94) H I_X7_look_92 rfl rfl
          obtain ⟨hr, hh⟩ := i_ir H I_X7_look_94
          exact hr.trans (by rw [gBl, gW2_2 c_79 c_85])
        · skip
          replace H := i_iln (q := 89) H I_X7_look_88 rfl rfl
          replace H := i_goto (q := 94) H I_X7_look_89 (by decide)
          obtain ⟨hr, hh⟩ := i_ir H I_X7_look_94
          exact hr.trans (by rw [gBl, gW2_1 c_85])
    · exfalso
      rw [h3] at c_44
      exact absurd ((zofn_lt (by omega) (by omega)).mp c_44) (by omega)
  | succ j ih =>
    intro i b mo d r h' hj H
    replace H := i_il (q := 37) H I_X7_look_35 rfl rfl
    replace H := i_aln (q := 38) H I_X7_look_37 rfl rfl
    replace H := i_gfr (q := 41) H I_X7_look_38 G_7_19 cn_X7_look LY_0 rfl rfl
    replace H := i_gfi (q := 44) H I_X7_look_41 G_7_99 cn_X7_look LY_11 rfl rfl
    have W := i_ic_ge (t := 78) (q := 47) H I_X7_look_44 (by decide) rfl
    clear H
    rcases W with ⟨c_44, H⟩ | ⟨c_44, H⟩
    · exfalso
      rw [h3] at c_44
      exact c_44 ((zofn_lt (by omega) (by omega)).mpr (by omega))
    · skip
      replace H := i_aln (q := 48) H I_X7_look_47 rfl rfl
      replace H := i_gfr (q := 51) H I_X7_look_48 G_7_40 cn_X7_look LY_0 rfl rfl
      replace H := i_il (q := 53) H I_X7_look_51 rfl rfl
      have W := i_cv1 2 (q := 56) H I_X7_look_53 K_7_250 Zm_63 rfl rfl
      clear H
      obtain ⟨r1, h1, Hc, K1, K2⟩ := W
      obtain ⟨e1, e2⟩ := t_X6_worst (i := i) (by omega) (fun o ho => hT i (by omega) o ho) Hc
      have H := K1 _ _ e1 e2
      clear e1 e2 Hc K1 K2
      replace H := i_is (q := 58) H I_X7_look_56 rfl rfl
      replace H := i_il (q := 60) H I_X7_look_58 rfl rfl
      replace H := i_il (q := 62) H I_X7_look_60 rfl rfl
      have W := i_ic_ge (t := 72) (q := 65) H I_X7_look_62 (by decide) rfl
      clear H
      rcases W with ⟨c_62, H⟩ | ⟨c_62, H⟩
      · skip
        replace H := i_inc (q := 75) H I_X7_look_72 rfl rfl rfl
        replace H := i_goto (q := 35) H I_X7_look_75 (by decide)
        have c62 : ¬ gWo c g sa sw s p i < mo := c_62
        replace H := i_w [true, true, true, true, true, true, false] H
        replace H : zE none d zm_X7_look 35 [.ref 0, .int x, .int w, .int b, .int mo, .int (Int32.ofNat (i + 1)), .null] [] m r h' := by
          rw [← zofn_s]
          exact H
        rw [gBl, if_neg c62]
        exact ih (i + 1) b mo d r h' (by omega) H
      · skip
        replace H := i_il (q := 67) H I_X7_look_65 rfl rfl
        replace H := i_is (q := 69) H I_X7_look_67 rfl rfl
        replace H := i_il (q := 71) H I_X7_look_69 rfl rfl
        replace H := i_isn (q := 72) H I_X7_look_71 rfl rfl
        replace H := i_inc (q := 75) H I_X7_look_72 rfl rfl rfl
        replace H := i_goto (q := 35) H I_X7_look_75 (by decide)
        have c62 :  gWo c g sa sw s p i < mo := c_62
        replace H := i_w [true, true, true, true, true, true, false] H
        replace H : zE none d zm_X7_look 35 [.ref 0, .int x, .int w, .int (Int32.ofNat i), .int (gWo c g sa sw s p i), .int (Int32.ofNat (i + 1)), .null] [] m r h' := by
          rw [← zofn_s]
          exact H
        rw [gBl, if_pos c62]
        exact ih (i + 1) (Int32.ofNat i) (gWo c g sa sw s p i) d r h' (by omega) H
theorem t_X7_look {d : Nat} {m : zM} {r : Option Value} {h' : zHp} {c a s p : Nat} {w : Int32} {g sa sw : Nat → Int32} (hL0 : LV m 11 c g) (hg : gok g c) (hS : cS m s sa sw) (hp : p < c) (ha8 : a ≤ 8) (h3 : m 11 3 = Int32.ofNat a) (H : zE none d zm_X7_look 0 [.ref 0, .int (Int32.ofNat p), .int w, .null, .null, .null, .null] [] m r h') : r = some (.int (gLook c a g sa sw s p w)) := by
  replace H := i_aln (q := 1) H I_X7_look_0 rfl rfl
  replace H := i_gfr (q := 4) H I_X7_look_1 G_7_19 cn_X7_look LY_0 rfl rfl
  replace H := i_iln (q := 5) H I_X7_look_4 rfl rfl
  have W := i_cv1 0 (q := 8) H I_X7_look_5 K_7_112 Zm_3 rfl rfl
  clear H
  obtain ⟨r1, h1, Hc, K1, K2⟩ := W
  obtain ⟨e1, e2⟩ := t_X0_has lkk_11 Hc
  have H := K1 _ _ e1 e2
  clear e1 e2 Hc K1 K2
  have W := i_if_eq (t := 20) (q := 11) H I_X7_look_8 (by decide) rfl
  clear H
  rcases W with ⟨c_8, H⟩ | ⟨c_8, H⟩
  · skip
    replace H := i_icst (x := (-1)) (q := 21) H I_X7_look_20 (by decide) rfl
    obtain ⟨hr, hh⟩ := i_ir H I_X7_look_21
    exfalso
    rw [hL0.1] at c_8
    exact zif0 c_8 (zis_n hL0.2.1 hp)
  · skip
    replace H := i_iln (q := 12) H I_X7_look_11 rfl rfl
    have W := i_if_lt (t := 20) (q := 15) H I_X7_look_12 (by decide) rfl
    clear H
    rcases W with ⟨c_12, H⟩ | ⟨c_12, H⟩
    · skip
      replace H := i_icst (x := (-1)) (q := 21) H I_X7_look_20 (by decide) rfl
      obtain ⟨hr, hh⟩ := i_ir H I_X7_look_21
      exact hr.trans (by rw [gLook, if_neg (fun q => q.1 c_12)])
    · skip
      replace H := i_iln (q := 16) H I_X7_look_15 rfl rfl
      replace H := i_icst (x := 1) (q := 17) H I_X7_look_16 (by decide) rfl
      have W := i_ic_le (t := 22) (q := 20) H I_X7_look_17 (by decide) rfl
      clear H
      rcases W with ⟨c_17, H⟩ | ⟨c_17, H⟩
      · skip
        replace H := i_bip (x := (-4)) (q := 24) H I_X7_look_22 (by decide) rfl
        replace H := i_isn (q := 25) H I_X7_look_24 rfl rfl
        replace H := i_aln (q := 26) H I_X7_look_25 rfl rfl
        replace H := i_iln (q := 27) H I_X7_look_26 rfl rfl
        have W := i_cv1 2 (q := 30) H I_X7_look_27 K_7_247 Zm_104 rfl rfl
        clear H
        obtain ⟨r1, h1, Hc, K1, K2⟩ := W
        obtain ⟨M_27, e1, e2, F_27⟩ := t_X7_tallyGuesses (p := p) hL0 hg hS hp Hc
        have H := K1 _ _ e1 e2
        clear e1 e2 Hc K1 K2
        replace H := i_is (q := 32) H I_X7_look_30 rfl rfl
        replace H := i_icst (x := 0) (q := 33) H I_X7_look_32 (by decide) rfl
        replace H := i_is (q := 35) H I_X7_look_33 rfl rfl
        rw [gLook, if_pos ⟨c_12, c_17⟩]
        exact lk_7 ha8 ((F_27.2 11 3 (by omega) (by omega)).trans h3) F_27.1 a 0 (-4) _ d r h' (by omega) H
      · skip
        replace H := i_icst (x := (-1)) (q := 21) H I_X7_look_20 (by decide) rfl
        obtain ⟨hr, hh⟩ := i_ir H I_X7_look_21
        exact hr.trans (by rw [gLook, if_neg (fun q => q.2 c_17)])
theorem t_X7_lookN {d : Nat} {m : zM} {r : Option Value} {h' : zHp} {c : Nat} {x w : Int32} (hc : m 11 2 = Int32.ofNat c) (hx : ¬ zIs x c) (H : zE none d zm_X7_look 0 [.ref 0, .int x, .int w, .null, .null, .null, .null] [] m r h') : r = some (.int (-1)) := by
  replace H := i_aln (q := 1) H I_X7_look_0 rfl rfl
  replace H := i_gfr (q := 4) H I_X7_look_1 G_7_19 cn_X7_look LY_0 rfl rfl
  replace H := i_iln (q := 5) H I_X7_look_4 rfl rfl
  have W := i_cv1 0 (q := 8) H I_X7_look_5 K_7_112 Zm_3 rfl rfl
  clear H
  obtain ⟨r1, h1, Hc, K1, K2⟩ := W
  obtain ⟨e1, e2⟩ := t_X0_has lkk_11 Hc
  have H := K1 _ _ e1 e2
  clear e1 e2 Hc K1 K2
  have W := i_if_eq (t := 20) (q := 11) H I_X7_look_8 (by decide) rfl
  clear H
  rcases W with ⟨c_8, H⟩ | ⟨c_8, H⟩
  · skip
    replace H := i_icst (x := (-1)) (q := 21) H I_X7_look_20 (by decide) rfl
    obtain ⟨hr, hh⟩ := i_ir H I_X7_look_21
    exact hr
  · skip
    rw [hc] at c_8
    exact absurd (zif1 c_8) hx
theorem al_loop {m : zM} {c s p i : Nat} {w mo b : Int32} {g sa sw : Nat → Int32} (hI : ∀ v, v < 21 → m 81 v = (if gCt c g sa sw s p v = true then 1 else 0) ∧ ∀ k, k < 8 → m 80 (8 * v + k) = (gCv c g p v).2.2.2.2 k) (hi : i < 8) {x y : Int32} : ∀ (j v : Nat) (n : Int32) (d : Nat) (r : Option Value) (h' : zHp), v + j = 21 → zE none d zm_X8_look 67 [.ref 71, .int (Int32.ofNat p), .int w, .int mo, .int b, .int (Int32.ofNat i), .int x, .int y, .int n, .int (Int32.ofNat v)] [] m r h' → zE none d zm_X8_look 118 [.ref 71, .int (Int32.ofNat p), .int w, .int mo, .int b, .int (Int32.ofNat i), .int x, .int y, .int (gN (gTw c g sa sw s p i y) j v n), .null] [] m r h' := by
  intro j
  induction j with
  | zero =>
    intro v n d r h' hj H
    replace H := i_il (q := 69) H I_X8_look_67 rfl rfl
    replace H := i_bip (x := 20) (q := 71) H I_X8_look_69 (by decide) rfl
    have W := i_ic_gt (t := 118) (q := 74) H I_X8_look_71 (by decide) rfl
    clear H
    rcases W with ⟨c_71, H⟩ | ⟨c_71, H⟩
    · skip
      exact i_w [true, true, true, true, true, true, true, true, true, false] H
    · exfalso
      exact c_71 ((zofn_lt (i := 20) (by decide) (by omega)).mpr (by omega))
  | succ j ih =>
    intro v n d r h' hj H
    replace H := i_il (q := 69) H I_X8_look_67 rfl rfl
    replace H := i_bip (x := 20) (q := 71) H I_X8_look_69 (by decide) rfl
    have W := i_ic_gt (t := 118) (q := 74) H I_X8_look_71 (by decide) rfl
    clear H
    rcases W with ⟨c_71, H⟩ | ⟨c_71, H⟩
    · exfalso
      exact absurd ((zofn_lt (i := 20) (by decide) (by omega)).mp c_71) (by omega)
    · skip
      replace H := i_il (q := 76) H I_X8_look_74 rfl rfl
      replace H := i_aln (q := 77) H I_X8_look_76 rfl rfl
      replace H := i_gfr (q := 80) H I_X8_look_77 G_8_37 cn_X8_look LY_71 rfl rfl
      replace H := i_il (q := 82) H I_X8_look_80 rfl rfl
      have W := i_ba (q := 83) H I_X8_look_82 LY_81 rfl
      clear H
      obtain ⟨i_82, bi_82, ei_82, H⟩ := W
      have W := i_if_eq (t := 108) (q := 86) H I_X8_look_83 (by decide) rfl
      clear H
      rcases W with ⟨c_83, H⟩ | ⟨c_83, H⟩
      · skip
        replace H := i_icst (x := 0) (q := 109) H I_X8_look_108 (by decide) rfl
        replace H := i_iadd (q := 110) H I_X8_look_109 rfl
        replace H := i_is (q := 112) H I_X8_look_110 rfl rfl
        replace H := i_inc (q := 115) H I_X8_look_112 rfl rfl rfl
        replace H := i_goto (q := 67) H I_X8_look_115 (by decide)
        have e82 : v = i_82 := zofn ei_82 (by omega) (by omega)
        subst e82
        rw [(hI v (by omega)).1] at c_83
        have hf : ¬ gTw c g sa sw s p i y v = true := fun q => by
          unfold gTw at q
          rw [Bool.and_eq_true] at q
          exact zif0 c_83 q.1
        replace H : zE none d zm_X8_look 67 [.ref 71, .int (Int32.ofNat p), .int w, .int mo, .int b, .int (Int32.ofNat i), .int x, .int y, .int n, .int (Int32.ofNat (v + 1))] [] m r h' := by
          rw [← zofn_s]
          rw [Int32.add_zero] at H
          exact H
        rw [gN, if_neg hf]
        exact ih (v + 1) n d r h' (by omega) H
      · skip
        replace H := i_aln (q := 87) H I_X8_look_86 rfl rfl
        replace H := i_gfr (q := 90) H I_X8_look_87 G_8_34 cn_X8_look LY_71 rfl rfl
        replace H := i_bip (x := 8) (q := 92) H I_X8_look_90 (by decide) rfl
        replace H := i_il (q := 94) H I_X8_look_92 rfl rfl
        replace H := i_imul (q := 95) H I_X8_look_94 rfl
        replace H := i_il (q := 97) H I_X8_look_95 rfl rfl
        replace H := i_iadd (q := 98) H I_X8_look_97 rfl
        have W := i_ia (q := 99) H I_X8_look_98 LY_80 rfl
        clear H
        obtain ⟨i_98, bi_98, ei_98, H⟩ := W
        replace H := i_il (q := 101) H I_X8_look_99 rfl rfl
        have W := i_ic_ne (t := 108) (q := 104) H I_X8_look_101 (by decide) rfl
        clear H
        rcases W with ⟨c_101, H⟩ | ⟨c_101, H⟩
        · skip
          replace H := i_icst (x := 0) (q := 109) H I_X8_look_108 (by decide) rfl
          replace H := i_iadd (q := 110) H I_X8_look_109 rfl
          replace H := i_is (q := 112) H I_X8_look_110 rfl rfl
          replace H := i_inc (q := 115) H I_X8_look_112 rfl rfl rfl
          replace H := i_goto (q := 67) H I_X8_look_115 (by decide)
          have e82 : v = i_82 := zofn ei_82 (by omega) (by omega)
          subst e82
          rw [(hI v (by omega)).1] at c_83
          have hc1 := zif1 c_83
          have e98 : i_98 = 8 * v + i := (zofn (by rw [Int32.ofNat_add, Int32.ofNat_mul]; exact ei_98) (by omega) (by omega)).symm
          subst e98
          rw [(hI v (by omega)).2 i hi] at c_101
          have hf : ¬ gTw c g sa sw s p i y v = true := fun q => by
            unfold gTw at q
            rw [Bool.and_eq_true] at q
            exact c_101 (of_decide_eq_true q.2)
          replace H : zE none d zm_X8_look 67 [.ref 71, .int (Int32.ofNat p), .int w, .int mo, .int b, .int (Int32.ofNat i), .int x, .int y, .int n, .int (Int32.ofNat (v + 1))] [] m r h' := by
            rw [← zofn_s]
            rw [Int32.add_zero] at H
            exact H
          rw [gN, if_neg hf]
          exact ih (v + 1) n d r h' (by omega) H
        · skip
          replace H := i_icst (x := 1) (q := 105) H I_X8_look_104 (by decide) rfl
          replace H := i_goto (q := 109) H I_X8_look_105 (by decide)
          replace H := i_iadd (q := 110) H I_X8_look_109 rfl
          replace H := i_is (q := 112) H I_X8_look_110 rfl rfl
          replace H := i_inc (q := 115) H I_X8_look_112 rfl rfl rfl
          replace H := i_goto (q := 67) H I_X8_look_115 (by decide)
          have e82 : v = i_82 := zofn ei_82 (by omega) (by omega)
          subst e82
          rw [(hI v (by omega)).1] at c_83
          have hc1 := zif1 c_83
          have e98 : i_98 = 8 * v + i := (zofn (by rw [Int32.ofNat_add, Int32.ofNat_mul]; exact ei_98) (by omega) (by omega)).symm
          subst e98
          rw [(hI v (by omega)).2 i hi] at c_101
          have hf : gTw c g sa sw s p i y v = true := by
            unfold gTw
            rw [hc1, decide_eq_true c_101]
            rfl
          replace H : zE none d zm_X8_look 67 [.ref 71, .int (Int32.ofNat p), .int w, .int mo, .int b, .int (Int32.ofNat i), .int x, .int y, .int (n + 1), .int (Int32.ofNat (v + 1))] [] m r h' := by
            rw [← zofn_s]
            exact H
          rw [gN, if_pos hf]
          exact ih (v + 1) (n + 1) d r h' (by omega) H
theorem md_step {m : zM} {c s p i : Nat} {w mo b : Int32} {g sa sw : Nat → Int32} (hI : ∀ v, v < 21 → m 81 v = (if gCt c g sa sw s p v = true then 1 else 0) ∧ ∀ k, k < 8 → m 80 (8 * v + k) = (gCv c g p v).2.2.2.2 k) (hi : i < 8) {d : Nat} {r : Option Value} {h' : zHp} {x y : Int32} (hc : m 71 2 = Int32.ofNat c) (hy : y < Int32.ofNat c) (H : zE none d zm_X8_look 52 [.ref 71, .int (Int32.ofNat p), .int w, .int mo, .int b, .int (Int32.ofNat i), .int x, .int y, .null, .null] [] m r h') : zE none d zm_X8_look 52 [.ref 71, .int (Int32.ofNat p), .int w, .int mo, .int b, .int (Int32.ofNat i), .int (zmax x (gN (gTw c g sa sw s p i y) 21 0 0)), .int (y + 1), .null, .null] [] m r h' := by
  replace H := i_il (q := 54) H I_X8_look_52 rfl rfl
  replace H := i_aln (q := 55) H I_X8_look_54 rfl rfl
  replace H := i_gfi (q := 58) H I_X8_look_55 G_8_131 cn_X8_look LY_71 rfl rfl
  have W := i_ic_ge (t := 140) (q := 61) H I_X8_look_58 (by decide) rfl
  clear H
  rcases W with ⟨c_58, H⟩ | ⟨c_58, H⟩
  · skip
    exfalso
    rw [hc] at c_58
    exact c_58 hy
  · skip
    replace H := i_icst (x := 0) (q := 62) H I_X8_look_61 (by decide) rfl
    replace H := i_is (q := 64) H I_X8_look_62 rfl rfl
    replace H := i_icst (x := 0) (q := 65) H I_X8_look_64 (by decide) rfl
    replace H := i_is (q := 67) H I_X8_look_65 rfl rfl
    replace H := al_loop hI hi 21 0 0 d r h' rfl H
    replace H := i_il (q := 120) H I_X8_look_118 rfl rfl
    replace H := i_il (q := 122) H I_X8_look_120 rfl rfl
    have W := i_ic_le (t := 130) (q := 125) H I_X8_look_122 (by decide) rfl
    clear H
    rcases W with ⟨c_122, H⟩ | ⟨c_122, H⟩
    · skip
      replace H := i_il (q := 132) H I_X8_look_130 rfl rfl
      replace H := i_is (q := 134) H I_X8_look_132 rfl rfl
      replace H := i_inc (q := 137) H I_X8_look_134 rfl rfl rfl
      replace H := i_goto (q := 52) H I_X8_look_137 (by decide)
      have e : zmax x (gN (gTw c g sa sw s p i y) 21 0 0) = x := by rw [zmax, if_neg c_122]
      rw [e]
      exact i_w [true, true, true, true, true, true, true, true, false, false] H
    · skip
      replace H := i_il (q := 127) H I_X8_look_125 rfl rfl
      replace H := i_goto (q := 132) H I_X8_look_127 (by decide)
      replace H := i_is (q := 134) H I_X8_look_132 rfl rfl
      replace H := i_inc (q := 137) H I_X8_look_134 rfl rfl rfl
      replace H := i_goto (q := 52) H I_X8_look_137 (by decide)
      have e : zmax x (gN (gTw c g sa sw s p i y) 21 0 0) = gN (gTw c g sa sw s p i y) 21 0 0 := by rw [zmax, if_pos c_122]
      rw [e]
      exact i_w [true, true, true, true, true, true, true, true, false, false] H

def zwr (A : Nat → Int32) : Nat → Nat → Int32 → Int32
  | 0, _, x => x
  | j + 1, t, x => zwr A j (t + 1) (zmax x (A t))
theorem md_loop {m : zM} {c s p i : Nat} {w mo b : Int32} {g sa sw : Nat → Int32} (hI : ∀ v, v < 21 → m 81 v = (if gCt c g sa sw s p v = true then 1 else 0) ∧ ∀ k, k < 8 → m 80 (8 * v + k) = (gCv c g p v).2.2.2.2 k) (hi : i < 8) {x0 : Int32} (hc : m 71 2 = Int32.ofNat c) (hc5 : c ≤ 5) : ∀ (j t : Nat) (x : Int32) (d : Nat) (r : Option Value) (h' : zHp), t + j = c → zE none d zm_X8_look 52 [.ref 71, .int (Int32.ofNat p), .int w, .int mo, .int b, .int (Int32.ofNat i), .int x, .int (Int32.ofNat t), .null, .null] [] m r h' → zE none d zm_X8_look 140 [.ref 71, .int (Int32.ofNat p), .int w, .int mo, .int b, .int (Int32.ofNat i), .int (zwr (fun t => gN (gTw c g sa sw s p i (Int32.ofNat t)) 21 0 0) j t x), .null, .null, .null] [] m r h' := by
  intro j
  induction j with
  | zero =>
    intro t x d r h' hj H
    replace H := i_il (q := 54) H I_X8_look_52 rfl rfl
    replace H := i_aln (q := 55) H I_X8_look_54 rfl rfl
    replace H := i_gfi (q := 58) H I_X8_look_55 G_8_131 cn_X8_look LY_71 rfl rfl
    have W := i_ic_ge (t := 140) (q := 61) H I_X8_look_58 (by decide) rfl
    clear H
    rcases W with ⟨c_58, H⟩ | ⟨c_58, H⟩
    · skip
      exact i_w [true, true, true, true, true, true, true, false, false, false] H
    · skip
      exfalso
      rw [hc] at c_58
      exact absurd ((zofn_lt (by omega) (by omega)).mp c_58) (by omega)
  | succ j ih =>
    intro t x d r h' hj H
    have H1 := md_step hI hi hc ((zofn_lt (by omega) (by omega)).mpr (by omega)) H
    replace H1 : zE none d zm_X8_look 52 [.ref 71, .int (Int32.ofNat p), .int w, .int mo, .int b, .int (Int32.ofNat i), .int (zmax x (gN (gTw c g sa sw s p i (Int32.ofNat t)) 21 0 0)), .int (Int32.ofNat (t + 1)), .null, .null] [] m r h' := by
      rw [← zofn_1]
      exact H1
    exact ih (t + 1) _ d r h' (by omega) H1
def gWr (c : Nat) (g sa sw : Nat → Int32) (s p i : Nat) : Int32 := zwr (fun t => gN (gTw c g sa sw s p i (Int32.ofNat t)) 21 0 0) c 0 (zmax (zmax (zmax (zmax 0 (gN (gTw c g sa sw s p i (-4)) 21 0 0)) (gN (gTw c g sa sw s p i (-3)) 21 0 0)) (gN (gTw c g sa sw s p i (-2)) 21 0 0)) (gN (gTw c g sa sw s p i (-1)) 21 0 0))
theorem z_neg {c : Nat} (hc : c ≤ 5) : (-4 : Int32) < Int32.ofNat c ∧ (-3 : Int32) < Int32.ofNat c ∧ (-2 : Int32) < Int32.ofNat c ∧ (-1 : Int32) < Int32.ofNat c := by
  have h := zofn_t (i := c) (by omega)
  refine ⟨?_, ?_, ?_, ?_⟩
  · rw [Int32.lt_iff_toInt_lt, h]; have e : (-4 : Int32).toInt = -4 := rfl; omega
  · rw [Int32.lt_iff_toInt_lt, h]; have e : (-3 : Int32).toInt = -3 := rfl; omega
  · rw [Int32.lt_iff_toInt_lt, h]; have e : (-2 : Int32).toInt = -2 := rfl; omega
  · rw [Int32.lt_iff_toInt_lt, h]; have e : (-1 : Int32).toInt = -1 := rfl; omega
theorem md_all {m : zM} {c s p i : Nat} {w mo b : Int32} {g sa sw : Nat → Int32} (hI : ∀ v, v < 21 → m 81 v = (if gCt c g sa sw s p v = true then 1 else 0) ∧ ∀ k, k < 8 → m 80 (8 * v + k) = (gCv c g p v).2.2.2.2 k) (hi : i < 8) {d : Nat} {r : Option Value} {h' : zHp} (hc : m 71 2 = Int32.ofNat c) (hc5 : c ≤ 5) (H : zE none d zm_X8_look 52 [.ref 71, .int (Int32.ofNat p), .int w, .int mo, .int b, .int (Int32.ofNat i), .int 0, .int (-4), .null, .null] [] m r h') : zE none d zm_X8_look 140 [.ref 71, .int (Int32.ofNat p), .int w, .int mo, .int b, .int (Int32.ofNat i), .int (gWr c g sa sw s p i), .null, .null, .null] [] m r h' := by
  obtain ⟨n4, n3, n2, n1⟩ := z_neg hc5
  have H1 := md_step hI hi hc n4 H
  rw [show (-4 : Int32) + 1 = -3 by decide] at H1
  have H2 := md_step hI hi hc n3 H1
  rw [show (-3 : Int32) + 1 = -2 by decide] at H2
  have H3 := md_step hI hi hc n2 H2
  rw [show (-2 : Int32) + 1 = -1 by decide] at H3
  have H4 := md_step hI hi hc n1 H3
  rw [show (-1 : Int32) + 1 = Int32.ofNat 0 by decide] at H4
  exact md_loop (x0 := 0) hI hi hc hc5 c 0 _ d r h' (by omega) H4
theorem gTw_5 {c s p i : Nat} {g sa sw : Nat → Int32} (hc : c ≤ 5) (v : Nat) : gTw c g sa sw s p i (-4) v = gTo c g sa sw s p i 5 v := by
  unfold gTw gTo
  have hb := gCv_b (c := c) (g := g) (p := p) (v := v) hc i
  obtain ⟨b1, b2⟩ := zEb_l hc hb
  by_cases h : (gCv c g p v).2.2.2.2 i = -4
  · rw [decide_eq_true h, decide_eq_true (show zou ((gCv c g p v).2.2.2.2 i) = 5 by unfold zou; rw [if_pos h])]
  · have b3 : zou ((gCv c g p v).2.2.2.2 i) < c := (b2 h).1
    rw [decide_eq_false h, decide_eq_false (show ¬ zou ((gCv c g p v).2.2.2.2 i) = 5 by omega)]
theorem gTw_o {c s p i t : Nat} {g sa sw : Nat → Int32} (hc : c ≤ 5) (ht : t < c) (v : Nat) : gTw c g sa sw s p i (Int32.ofNat t) v = gTo c g sa sw s p i t v := by
  unfold gTw gTo
  have hb := gCv_b (c := c) (g := g) (p := p) (v := v) hc i
  obtain ⟨b1, b2⟩ := zEb_l hc hb
  by_cases h : (gCv c g p v).2.2.2.2 i = -4
  · have h5 : zou ((gCv c g p v).2.2.2.2 i) = 5 := by unfold zou; rw [if_pos h]
    rw [decide_eq_false (show ¬ zou ((gCv c g p v).2.2.2.2 i) = t by omega), decide_eq_false (fun q => by
      have q2 := congrArg Int32.toInt (h.symm.trans q)
      rw [zofn_t (by omega)] at q2
      have e4 : (-4 : Int32).toInt = -4 := rfl
      omega)]
  · obtain ⟨b3, b4⟩ := b2 h
    by_cases e : zou ((gCv c g p v).2.2.2.2 i) = t
    · rw [decide_eq_true e, decide_eq_true (b4.trans (congrArg Int32.ofNat e))]
    · rw [decide_eq_false e, decide_eq_false (fun q => e (zofn (b4.symm.trans q) (by omega) (by omega)))]
theorem gTo_0 {c s p i o : Nat} {g sa sw : Nat → Int32} (hc : c ≤ 5) (h1 : c ≤ o) (h2 : o < 5) (v : Nat) : gTo c g sa sw s p i o v = false := by
  unfold gTo
  have hb := gCv_b (c := c) (g := g) (p := p) (v := v) hc i
  obtain ⟨b1, b2⟩ := zEb_l hc hb
  rw [decide_eq_false, Bool.and_false]
  intro q
  by_cases h : (gCv c g p v).2.2.2.2 i = -4
  · have h5 : zou ((gCv c g p v).2.2.2.2 i) = 5 := by unfold zou; rw [if_pos h]
    omega
  · have b3 : zou ((gCv c g p v).2.2.2.2 i) < c := (b2 h).1
    omega
theorem gTw_n {c s p i : Nat} {x : Int32} {g sa sw : Nat → Int32} (hc : c ≤ 5) (hx : x.toInt < 0) (hx4 : ¬ x = -4) (v : Nat) : gTw c g sa sw s p i x v = false := by
  unfold gTw
  have hb := gCv_b (c := c) (g := g) (p := p) (v := v) hc i
  rw [decide_eq_false, Bool.and_false]
  intro q
  rcases hb with h | ⟨w, w1, h⟩
  · exact hx4 (q.symm.trans h)
  · have e : x = Int32.ofNat w := q.symm.trans h
    rw [e, zofn_t (by omega)] at hx
    omega
theorem gWr_o {c s p i : Nat} {g sa sw : Nat → Int32} (hc : c ≤ 5) : gWr c g sa sw s p i = gWo c g sa sw s p i := by
  have e4 : gN (gTw c g sa sw s p i (-4)) 21 0 0 = gN (gTo c g sa sw s p i 5) 21 0 0 := gN_g 21 0 0 (fun v => gTw_5 hc v)
  have e3 : gN (gTw c g sa sw s p i (-3)) 21 0 0 = 0 := gN_0 21 0 0 (fun v => gTw_n hc (by decide) (by decide) v)
  have e2 : gN (gTw c g sa sw s p i (-2)) 21 0 0 = 0 := gN_0 21 0 0 (fun v => gTw_n hc (by decide) (by decide) v)
  have e1 : gN (gTw c g sa sw s p i (-1)) 21 0 0 = 0 := gN_0 21 0 0 (fun v => gTw_n hc (by decide) (by decide) v)
  have eo : ∀ t, t < c → gN (gTw c g sa sw s p i (Int32.ofNat t)) 21 0 0 = gN (gTo c g sa sw s p i t) 21 0 0 := fun t ht => gN_g 21 0 0 (fun v => gTw_o hc ht v)
  have ez : ∀ o, c ≤ o → o < 5 → gN (gTo c g sa sw s p i o) 21 0 0 = 0 := fun o h1 h2 => gN_0 21 0 0 (fun v => gTo_0 hc h1 h2 v)
  apply Int32.toInt_inj.mp
  have z0 : (0 : Int32).toInt = 0 := rfl
  unfold gWr gWo
  rw [e4, e3, e2, e1]
  have h5 : c = 0 ∨ c = 1 ∨ c = 2 ∨ c = 3 ∨ c = 4 ∨ c = 5 := by omega
  rcases h5 with rfl | rfl | rfl | rfl | rfl | rfl
  · simp only [zwr, zwo, zmax_t, z0, ez 0 (by omega) (by omega), ez 1 (by omega) (by omega), ez 2 (by omega) (by omega), ez 3 (by omega) (by omega), ez 4 (by omega) (by omega)]
    omega
  · simp only [zwr, zwo, zmax_t, z0, eo 0 (by omega), ez 1 (by omega) (by omega), ez 2 (by omega) (by omega), ez 3 (by omega) (by omega), ez 4 (by omega) (by omega)]
    omega
  · simp only [zwr, zwo, zmax_t, z0, eo 0 (by omega), eo 1 (by omega), ez 2 (by omega) (by omega), ez 3 (by omega) (by omega), ez 4 (by omega) (by omega)]
    omega
  · simp only [zwr, zwo, zmax_t, z0, eo 0 (by omega), eo 1 (by omega), eo 2 (by omega), ez 3 (by omega) (by omega), ez 4 (by omega) (by omega)]
    omega
  · simp only [zwr, zwo, zmax_t, z0, eo 0 (by omega), eo 1 (by omega), eo 2 (by omega), eo 3 (by omega), ez 4 (by omega) (by omega)]
    omega
  · simp only [zwr, zwo, zmax_t, z0, eo 0 (by omega), eo 1 (by omega), eo 2 (by omega), eo 3 (by omega), eo 4 (by omega)]
    omega
theorem lk_8 {m : zM} {c a s p : Nat} {w : Int32} {g sa sw : Nat → Int32} (hc5 : c ≤ 5) (ha8 : a ≤ 8) (hc : m 71 2 = Int32.ofNat c) (h26 : m 72 26 = Int32.ofNat a) (hI : ∀ v, v < 21 → m 81 v = (if gCt c g sa sw s p v = true then 1 else 0) ∧ ∀ k, k < 8 → m 80 (8 * v + k) = (gCv c g p v).2.2.2.2 k) : ∀ (j i : Nat) (b mo : Int32) (d : Nat) (r : Option Value) (h' : zHp), i + j = a → zE none d zm_X8_look 33 [.ref 71, .int (Int32.ofNat p), .int w, .int mo, .int b, .int (Int32.ofNat i), .null, .null, .null, .null] [] m r h' → r = some (.int (gW2 w (gBl (gWo c g sa sw s p) j i b mo))) := by
  intro j
  induction j with
  | zero =>
    intro i b mo d r h' hj H
    replace H := i_il (q := 35) H I_X8_look_33 rfl rfl
    replace H := i_aln (q := 36) H I_X8_look_35 rfl rfl
    replace H := i_gfr (q := 39) H I_X8_look_36 G_8_7 cn_X8_look LY_71 rfl rfl
    replace H := i_bip (x := 26) (q := 41) H I_X8_look_39 (by decide) rfl
    have W := i_ia (q := 42) H I_X8_look_41 LY_72 rfl
    clear H
    obtain ⟨i_41, bi_41, ei_41, H⟩ := W
    have W := i_ic_ge (t := 174) (q := 45) H I_X8_look_42 (by decide) rfl
    clear H
    rcases W with ⟨c_42, H⟩ | ⟨c_42, H⟩
    · skip
      replace H := i_il (q := 176) H I_X8_look_174 rfl rfl
      replace H := i_bip (x := (-4)) (q := 178) H I_X8_look_176 (by decide) rfl
      have W := i_ic_eq (t := 185) (q := 181) H I_X8_look_178 (by decide) rfl
      clear H
      rcases W with ⟨c_178, H⟩ | ⟨c_178, H⟩
      · skip
        replace H := i_il (q := 187) H I_X8_look_185 rfl rfl
        replace H := i_goto (q := 191) H I_X8_look_187 (by decide)
        obtain ⟨hr, hh⟩ := i_ir H I_X8_look_191
        exact hr.trans (by rw [gBl, gW2_1 c_178])
      · skip
        replace H := i_iln (q := 182) H I_X8_look_181 rfl rfl
        have W := i_if_ne (t := 190) (q := 185) H I_X8_look_182 (by decide) rfl
        clear H
        rcases W with ⟨c_182, H⟩ | ⟨c_182, H⟩
        · skip
          replace H := i_iln (q := 191) H I_X8_look_190 rfl rfl
          obtain ⟨hr, hh⟩ := i_ir H I_X8_look_191
          exact hr.trans (by rw [gBl, gW2_2 c_182 c_178])
        · skip
          replace H := i_il (q := 187) H I_X8_look_185 rfl rfl
          replace H := i_goto (q := 191) H I_X8_look_187 (by decide)
          obtain ⟨hr, hh⟩ := i_ir H I_X8_look_191
          exact hr.trans (by rw [gBl, gW2_0 c_182])
    · exfalso
      have e41 : i_41 = 26 := (zofn (i := 26) ei_41 (by decide) (by omega)).symm
      subst e41
      rw [h26] at c_42
      exact absurd ((zofn_lt (by omega) (by omega)).mp c_42) (by omega)
  | succ j ih =>
    intro i b mo d r h' hj H
    replace H := i_il (q := 35) H I_X8_look_33 rfl rfl
    replace H := i_aln (q := 36) H I_X8_look_35 rfl rfl
    replace H := i_gfr (q := 39) H I_X8_look_36 G_8_7 cn_X8_look LY_71 rfl rfl
    replace H := i_bip (x := 26) (q := 41) H I_X8_look_39 (by decide) rfl
    have W := i_ia (q := 42) H I_X8_look_41 LY_72 rfl
    clear H
    obtain ⟨i_41, bi_41, ei_41, H⟩ := W
    have W := i_ic_ge (t := 174) (q := 45) H I_X8_look_42 (by decide) rfl
    clear H
    rcases W with ⟨c_42, H⟩ | ⟨c_42, H⟩
    · exfalso
      have e41 : i_41 = 26 := (zofn (i := 26) ei_41 (by decide) (by omega)).symm
      subst e41
      rw [h26] at c_42
      exact c_42 ((zofn_lt (by omega) (by omega)).mpr (by omega))
    · skip
      replace H := i_icst (x := 0) (q := 46) H I_X8_look_45 (by decide) rfl
      replace H := i_is (q := 48) H I_X8_look_46 rfl rfl
      replace H := i_bip (x := (-4)) (q := 50) H I_X8_look_48 (by decide) rfl
      replace H := i_is (q := 52) H I_X8_look_50 rfl rfl
      replace H := i_w [true, true, true, true, true, true, true, true, false, false] H
      replace H := md_all (i := i) hI (by omega) hc hc5 H
      rw [gWr_o hc5] at H
      replace H := i_il (q := 142) H I_X8_look_140 rfl rfl
      replace H := i_iln (q := 143) H I_X8_look_142 rfl rfl
      have W := i_ic_ge (t := 151) (q := 146) H I_X8_look_143 (by decide) rfl
      clear H
      rcases W with ⟨c_143, H⟩ | ⟨c_143, H⟩
      · skip
        replace H := i_il (q := 153) H I_X8_look_151 rfl rfl
        replace H := i_is (q := 155) H I_X8_look_153 rfl rfl
        replace H := i_il (q := 157) H I_X8_look_155 rfl rfl
        replace H := i_iln (q := 158) H I_X8_look_157 rfl rfl
        have W := i_ic_ge (t := 166) (q := 161) H I_X8_look_158 (by decide) rfl
        clear H
        rcases W with ⟨c_158, H⟩ | ⟨c_158, H⟩
        · skip
          replace H := i_iln (q := 167) H I_X8_look_166 rfl rfl
          replace H := i_isn (q := 168) H I_X8_look_167 rfl rfl
          replace H := i_inc (q := 171) H I_X8_look_168 rfl rfl rfl
          replace H := i_goto (q := 33) H I_X8_look_171 (by decide)
          have c143 : ¬ gWo c g sa sw s p i < mo := c_143
          replace H := i_w [true, true, true, true, true, true, false, false, false, false] H
          replace H : zE none d zm_X8_look 33 [.ref 71, .int (Int32.ofNat p), .int w, .int mo, .int b, .int (Int32.ofNat (i + 1)), .null, .null, .null, .null] [] m r h' := by
            rw [← zofn_s]
            exact H
          rw [gBl, if_neg c143]
          exact ih (i + 1) b mo d r h' (by omega) H
        · skip
          replace H := i_il (q := 163) H I_X8_look_161 rfl rfl
          replace H := i_goto (q := 167) H I_X8_look_163 (by decide)
          replace H := i_isn (q := 168) H I_X8_look_167 rfl rfl
          replace H := i_inc (q := 171) H I_X8_look_168 rfl rfl rfl
          replace H := i_goto (q := 33) H I_X8_look_171 (by decide)
          exact absurd c_158 c_143
      · skip
        replace H := i_il (q := 148) H I_X8_look_146 rfl rfl
        replace H := i_goto (q := 153) H I_X8_look_148 (by decide)
        replace H := i_is (q := 155) H I_X8_look_153 rfl rfl
        replace H := i_il (q := 157) H I_X8_look_155 rfl rfl
        replace H := i_iln (q := 158) H I_X8_look_157 rfl rfl
        have W := i_ic_ge (t := 166) (q := 161) H I_X8_look_158 (by decide) rfl
        clear H
        rcases W with ⟨c_158, H⟩ | ⟨c_158, H⟩
        · skip
          replace H := i_iln (q := 167) H I_X8_look_166 rfl rfl
          replace H := i_isn (q := 168) H I_X8_look_167 rfl rfl
          replace H := i_inc (q := 171) H I_X8_look_168 rfl rfl rfl
          replace H := i_goto (q := 33) H I_X8_look_171 (by decide)
          exact absurd c_143 c_158
        · skip
          replace H := i_il (q := 163) H I_X8_look_161 rfl rfl
          replace H := i_goto (q := 167) H I_X8_look_163 (by decide)
          replace H := i_isn (q := 168) H I_X8_look_167 rfl rfl
          replace H := i_inc (q := 171) H I_X8_look_168 rfl rfl rfl
          replace H := i_goto (q := 33) H I_X8_look_171 (by decide)
          have c143 :  gWo c g sa sw s p i < mo := c_143
          replace H := i_w [true, true, true, true, true, true, false, false, false, false] H
          replace H : zE none d zm_X8_look 33 [.ref 71, .int (Int32.ofNat p), .int w, .int (gWo c g sa sw s p i), .int (Int32.ofNat i), .int (Int32.ofNat (i + 1)), .null, .null, .null, .null] [] m r h' := by
            rw [← zofn_s]
            exact H
          rw [gBl, if_pos c143]
          exact ih (i + 1) (Int32.ofNat i) (gWo c g sa sw s p i) d r h' (by omega) H
theorem t_X8_look {d : Nat} {m : zM} {r : Option Value} {h' : zHp} {s p : Nat} {w : Int32} {sa sw : Nat → Int32} {c a : Nat} {g : Nat → Int32} (hP : PG m 0 g) (hg : gok g c) (hpl : gpl g) (ha : g 26 = Int32.ofNat a) (ha8 : a ≤ 8) (hc : m 71 2 = Int32.ofNat c) (hM : zMk m) (hS : rS m s sa sw) (hp : p < c) (H : zE none d zm_X8_look 0 [.ref 71, .int (Int32.ofNat p), .int w, .null, .null, .null, .null, .null, .null, .null] [] m r h') : r = some (.int (gLook c a g sa sw s p w)) := by
  have hc5 := hg.1
  replace H := i_aln (q := 1) H I_X8_look_0 rfl rfl
  replace H := i_iln (q := 2) H I_X8_look_1 rfl rfl
  have W := i_cv1 0 (q := 5) H I_X8_look_2 K_8_151 Zm_127 rfl rfl
  clear H
  obtain ⟨r1, h1, Hc, K1, K2⟩ := W
  obtain ⟨e1, e2⟩ := t_X8_isOne hc hc5 Hc
  have H := K1 _ _ e1 e2
  clear e1 e2 Hc K1 K2
  have W := i_if_eq (t := 18) (q := 8) H I_X8_look_5 (by decide) rfl
  clear H
  rcases W with ⟨c_5, H⟩ | ⟨c_5, H⟩
  · skip
    replace H := i_icst (x := (-1)) (q := 19) H I_X8_look_18 (by decide) rfl
    obtain ⟨hr, hh⟩ := i_ir H I_X8_look_19
    exfalso
    rw [hc] at c_5
    exact zif0 c_5 (zis_n hg.1 hp)
  · skip
    replace H := i_iln (q := 9) H I_X8_look_8 rfl rfl
    replace H := i_i2l (q := 10) H I_X8_look_9 rfl
    replace H := i_lcst (x := 0) (q := 11) H I_X8_look_10 (by decide) rfl
    replace H := i_lcst (x := 1) (q := 12) H I_X8_look_11 (by decide) rfl
    replace H := i_in (q := 15) H I_X8_look_12 K_8_55 rfl
    have W := i_if_ne (t := 20) (q := 18) H I_X8_look_15 (by decide) rfl
    clear H
    rcases W with ⟨c_15, H⟩ | ⟨c_15, H⟩
    · skip
      replace H := i_aln (q := 21) H I_X8_look_20 rfl rfl
      replace H := i_iln (q := 22) H I_X8_look_21 rfl rfl
      have W := i_cv1 3 (q := 25) H I_X8_look_22 K_8_236 Zm_170 rfl rfl
      clear H
      obtain ⟨r1, h1, Hc, K1, K2⟩ := W
      obtain ⟨M_22, e1, e2, F_22⟩ := t_X8_fitsOf (p := p) hP hg hpl ha ha8 hc hM hS hp Hc
      have H := K1 _ _ e1 e2
      clear e1 e2 Hc K1 K2
      replace H := i_isn (q := 26) H I_X8_look_25 rfl rfl
      replace H := i_bip (x := (-4)) (q := 28) H I_X8_look_26 (by decide) rfl
      replace H := i_is (q := 30) H I_X8_look_28 rfl rfl
      replace H := i_icst (x := 0) (q := 31) H I_X8_look_30 (by decide) rfl
      replace H := i_is (q := 33) H I_X8_look_31 rfl rfl
      rw [zin_bt (lo := 0) (hi := 1) rfl rfl] at c_15
      rw [gLook, if_pos (zif1 c_15)]
      exact lk_8 hg.1 ha8 ((F_22.2 71 2 (by omega) (by omega) (by omega) (by omega) (by omega)).trans hc) ((F_22.2 72 26 (by omega) (by omega) (by omega) (by omega) (by omega)).trans ((PG_0 hP (by omega)).trans ha)) F_22.1 a 0 (-4) _ d r h' (by omega) H
    · skip
      replace H := i_icst (x := (-1)) (q := 19) H I_X8_look_18 (by decide) rfl
      obtain ⟨hr, hh⟩ := i_ir H I_X8_look_19
      rw [zin_bt (lo := 0) (hi := 1) rfl rfl] at c_15
      exact hr.trans (by rw [gLook, if_neg (zif0 c_15)])
theorem t_X8_lookN {d : Nat} {m : zM} {r : Option Value} {h' : zHp} {c : Nat} {x w : Int32} (hc : m 71 2 = Int32.ofNat c) (hc5 : c ≤ 5) (hx : ¬ zIs x c) (H : zE none d zm_X8_look 0 [.ref 71, .int x, .int w, .null, .null, .null, .null, .null, .null, .null] [] m r h') : r = some (.int (-1)) := by
  replace H := i_aln (q := 1) H I_X8_look_0 rfl rfl
  replace H := i_iln (q := 2) H I_X8_look_1 rfl rfl
  have W := i_cv1 0 (q := 5) H I_X8_look_2 K_8_151 Zm_127 rfl rfl
  clear H
  obtain ⟨r1, h1, Hc, K1, K2⟩ := W
  obtain ⟨e1, e2⟩ := t_X8_isOne hc hc5 Hc
  have H := K1 _ _ e1 e2
  clear e1 e2 Hc K1 K2
  have W := i_if_eq (t := 18) (q := 8) H I_X8_look_5 (by decide) rfl
  clear H
  rcases W with ⟨c_5, H⟩ | ⟨c_5, H⟩
  · skip
    replace H := i_icst (x := (-1)) (q := 19) H I_X8_look_18 (by decide) rfl
    obtain ⟨hr, hh⟩ := i_ir H I_X8_look_19
    exact hr
  · skip
    rw [hc] at c_5
    exact absurd (zif1 c_5) hx
theorem pt_look {m : zM} {r : Option Value} {h' : zHp} {x0 x1 : Int32} (ht : zTy m) (hR : RS m) (H : zEv none 19 zm_X7_look (0, lv_args 0 [.ref 0, .int x0, .int x1], [], zhp m) r h') : ∃ m1 v, r = some (.int v) ∧ h' = zhp m1 ∧ zTy m1 ∧ ∀ r2 h2, zEv none 19 zm_X8_look (0, lv_args 0 [.ref 71, .int x0, .int x1], [], zhp m1) r2 h2 → ∃ m2 v2, r2 = some (.int v2) ∧ h2 = zhp m2 ∧ zTy m2 ∧ RS m2 ∧ v = v2 := by
  obtain ⟨hR, hS⟩ := hR
  have hR0 := hR
  have hS0 := hS
  obtain ⟨s, s1, s2, s3, s4⟩ := hS
  obtain ⟨⟨_, hM, _, _, c, c1, ⟨hL, hb⟩, _⟩, _⟩ := hR
  have hg := gok_11 ht hL
  have hpl := gpl_0 ht
  obtain ⟨a, a6, a7, _⟩ := hL.2.2.2.2.2
  obtain ⟨m1, v, a1, a2, a3, a4⟩ := e_X7_look ht H
  refine ⟨m1, v, a1, a2, a3, fun r2 h2 H2 => ?_⟩
  obtain ⟨m2, v2, b1, b2, b3, b4⟩ := e_X8_look a3 H2
  refine ⟨m2, v2, b1, b2, b3, ⟨RF_f (RF_f hR0 a4 (by decide +kernel)) b4 (by decide +kernel), SV_f (SV_f hS0 a4 (by decide +kernel)) b4 (by decide +kernel)⟩, ?_⟩
  have hP1 : PG m1 0 (pgf m 0) := ⟨by omega, fun j hj => a4 72 (0 + j) (zpl_r LY_72 (by omega)) (ymd_c (by decide +kernel) _)⟩
  have hM1 : zMk m1 := ⟨(a4 73 0 ⟨_, LY_73, rfl⟩ (by decide +kernel)).trans hM.1, (a4 73 1 ⟨_, LY_73, rfl⟩ (by decide +kernel)).trans hM.2.1, (a4 73 2 ⟨_, LY_73, rfl⟩ (by decide +kernel)).trans hM.2.2.1, (a4 73 3 ⟨_, LY_73, rfl⟩ (by decide +kernel)).trans hM.2.2.2⟩
  have hcS : cS m s (m 41) (m 42) := ⟨s1, s2, fun _ _ => ⟨rfl, rfl⟩⟩
  have hrS : rS m1 s (m 41) (m 42) := ⟨s1, (a4 71 23 ⟨_, LY_71, rfl⟩ (by decide +kernel)).trans s3, fun k hk => ⟨(a4 79 (2 * k) (zpl_r LY_79 (by omega)) (ymd_c (by decide +kernel) _)).trans (s4 k hk).1.symm, (a4 79 (2 * k + 1) (zpl_r LY_79 (by omega)) (ymd_c (by decide +kernel) _)).trans (s4 k hk).2.symm⟩⟩
  have hc1 : m1 71 2 = Int32.ofNat c := (a4 71 2 ⟨_, LY_71, rfl⟩ (by decide +kernel)).trans c1
  obtain ⟨a', a6', a7', a8', _⟩ := hL.2.2.2.2.2
  by_cases hx : zIs x0 c
  · obtain ⟨p, p1, rfl⟩ := zlt_n rfl (by have := hL.2.1; omega) hx
    have k1 := t_X7_look hL hg hcS p1 a6' a8' (zE_of 4 rfl H)
    have k2 := t_X8_look hP1 hg hpl a7' a6' hc1 hM1 hrS p1 (zE_of 7 rfl H2)
    rw [a1] at k1
    rw [b1] at k2
    cases k1
    cases k2
    rfl
  · have k1 := t_X7_lookN hL.1 hx (zE_of 4 rfl H)
    have k2 := t_X8_lookN hc1 hL.2.1 hx (zE_of 7 rfl H2)
    rw [a1] at k1
    rw [b1] at k2
    cases k1
    cases k2
    rfl
