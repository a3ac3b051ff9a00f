section
/-! the plan tried: runs, ahead, round -/
theorem It_X0_greatest : zm_X0_greatest.2.2.2.2.2 = zt_X0_greatest := by
  unfold zm_X0_greatest
  rfl
theorem It_X7_ahead : zm_X7_ahead.2.2.2.2.2 = zt_X7_ahead := by
  unfold zm_X7_ahead
  rfl
theorem It_X7_rehearse : zm_X7_rehearse.2.2.2.2.2 = zt_X7_rehearse := by
  unfold zm_X7_rehearse
  rfl
theorem It_X7_round : zm_X7_round.2.2.2.2.2 = zt_X7_round := by
  unfold zm_X7_round
  rfl
theorem It_X7_runs : zm_X7_runs.2.2.2.2.2 = zt_X7_runs := by
  unfold zm_X7_runs
  rfl
theorem It_X8_ahead : zm_X8_ahead.2.2.2.2.2 = zt_X8_ahead := by
  unfold zm_X8_ahead
  rfl
theorem It_X8_mostOn : zm_X8_mostOn.2.2.2.2.2 = zt_X8_mostOn := by
  unfold zm_X8_mostOn
  rfl
theorem It_X8_round : zm_X8_round.2.2.2.2.2 = zt_X8_round := by
  unfold zm_X8_round
  rfl
theorem It_X8_runs : zm_X8_runs.2.2.2.2.2 = zt_X8_runs := by
  unfold zm_X8_runs
  rfl
theorem It_X8_tries : zm_X8_tries.2.2.2.2.2 = zt_X8_tries := by
  unfold zm_X8_tries
  rfl
theorem I_X0_greatest_0 : zin zm_X0_greatest.2.2.2.2.2 0 = some (.bipush (-4), 2) := by rw [It_X0_greatest]; rfl
theorem I_X0_greatest_2 : zin zm_X0_greatest.2.2.2.2.2 2 = some (.istore_n 1, 1) := by rw [It_X0_greatest]; rfl
theorem I_X0_greatest_3 : zin zm_X0_greatest.2.2.2.2.2 3 = some (.iconst 0, 1) := by rw [It_X0_greatest]; rfl
theorem I_X0_greatest_4 : zin zm_X0_greatest.2.2.2.2.2 4 = some (.istore_n 2, 1) := by rw [It_X0_greatest]; rfl
theorem I_X0_greatest_5 : zin zm_X0_greatest.2.2.2.2.2 5 = some (.iload_n 2, 1) := by rw [It_X0_greatest]; rfl
theorem I_X0_greatest_6 : zin zm_X0_greatest.2.2.2.2.2 6 = some (.aload_n 0, 1) := by rw [It_X0_greatest]; rfl
theorem I_X0_greatest_7 : zin zm_X0_greatest.2.2.2.2.2 7 = some (.getfield 26, 3) := by rw [It_X0_greatest]; rfl
theorem I_X0_greatest_10 : zin zm_X0_greatest.2.2.2.2.2 10 = some (.if_icmp .ge 23, 3) := by rw [It_X0_greatest]; rfl
theorem I_X0_greatest_13 : zin zm_X0_greatest.2.2.2.2.2 13 = some (.iload_n 1, 1) := by rw [It_X0_greatest]; rfl
theorem I_X0_greatest_14 : zin zm_X0_greatest.2.2.2.2.2 14 = some (.aload_n 0, 1) := by rw [It_X0_greatest]; rfl
theorem I_X0_greatest_15 : zin zm_X0_greatest.2.2.2.2.2 15 = some (.getfield 11, 3) := by rw [It_X0_greatest]; rfl
theorem I_X0_greatest_18 : zin zm_X0_greatest.2.2.2.2.2 18 = some (.iload_n 2, 1) := by rw [It_X0_greatest]; rfl
theorem I_X0_greatest_19 : zin zm_X0_greatest.2.2.2.2.2 19 = some (.aaload, 1) := by rw [It_X0_greatest]; rfl
theorem I_X0_greatest_20 : zin zm_X0_greatest.2.2.2.2.2 20 = some (.invokevirtual 51, 3) := by rw [It_X0_greatest]; rfl
theorem I_X0_greatest_23 : zin zm_X0_greatest.2.2.2.2.2 23 = some (.invokestatic 65, 3) := by rw [It_X0_greatest]; rfl
theorem I_X0_greatest_26 : zin zm_X0_greatest.2.2.2.2.2 26 = some (.istore_n 1, 1) := by rw [It_X0_greatest]; rfl
theorem I_X0_greatest_27 : zin zm_X0_greatest.2.2.2.2.2 27 = some (.iinc 2 1, 3) := by rw [It_X0_greatest]; rfl
theorem I_X0_greatest_30 : zin zm_X0_greatest.2.2.2.2.2 30 = some (.goto (-25), 3) := by rw [It_X0_greatest]; rfl
theorem I_X0_greatest_33 : zin zm_X0_greatest.2.2.2.2.2 33 = some (.iload_n 1, 1) := by rw [It_X0_greatest]; rfl
theorem I_X0_greatest_34 : zin zm_X0_greatest.2.2.2.2.2 34 = some (.ireturn, 1) := by rw [It_X0_greatest]; rfl
theorem I_X7_ahead_0 : zin zm_X7_ahead.2.2.2.2.2 0 = some (.aload_n 0, 1) := by rw [It_X7_ahead]; rfl
theorem I_X7_ahead_1 : zin zm_X7_ahead.2.2.2.2.2 1 = some (.getfield 19, 3) := by rw [It_X7_ahead]; rfl
theorem I_X7_ahead_4 : zin zm_X7_ahead.2.2.2.2.2 4 = some (.iload_n 1, 1) := by rw [It_X7_ahead]; rfl
theorem I_X7_ahead_5 : zin zm_X7_ahead.2.2.2.2.2 5 = some (.invokevirtual 112, 3) := by rw [It_X7_ahead]; rfl
theorem I_X7_ahead_8 : zin zm_X7_ahead.2.2.2.2.2 8 = some (.ifCond .ne 5, 3) := by rw [It_X7_ahead]; rfl
theorem I_X7_ahead_11 : zin zm_X7_ahead.2.2.2.2.2 11 = some (.iconst (-1), 1) := by rw [It_X7_ahead]; rfl
theorem I_X7_ahead_12 : zin zm_X7_ahead.2.2.2.2.2 12 = some (.ireturn, 1) := by rw [It_X7_ahead]; rfl
theorem I_X7_ahead_13 : zin zm_X7_ahead.2.2.2.2.2 13 = some (.aload_n 0, 1) := by rw [It_X7_ahead]; rfl
theorem I_X7_ahead_14 : zin zm_X7_ahead.2.2.2.2.2 14 = some (.invokevirtual 161, 3) := by rw [It_X7_ahead]; rfl
theorem I_X7_ahead_17 : zin zm_X7_ahead.2.2.2.2.2 17 = some (.pop, 1) := by rw [It_X7_ahead]; rfl
theorem I_X7_ahead_18 : zin zm_X7_ahead.2.2.2.2.2 18 = some (.aload_n 0, 1) := by rw [It_X7_ahead]; rfl
theorem I_X7_ahead_19 : zin zm_X7_ahead.2.2.2.2.2 19 = some (.getfield 26, 3) := by rw [It_X7_ahead]; rfl
theorem I_X7_ahead_22 : zin zm_X7_ahead.2.2.2.2.2 22 = some (.getfield 173, 3) := by rw [It_X7_ahead]; rfl
theorem I_X7_ahead_25 : zin zm_X7_ahead.2.2.2.2.2 25 = some (.getfield 116, 3) := by rw [It_X7_ahead]; rfl
theorem I_X7_ahead_28 : zin zm_X7_ahead.2.2.2.2.2 28 = some (.iload_n 1, 1) := by rw [It_X7_ahead]; rfl
theorem I_X7_ahead_29 : zin zm_X7_ahead.2.2.2.2.2 29 = some (.aaload, 1) := by rw [It_X7_ahead]; rfl
theorem I_X7_ahead_30 : zin zm_X7_ahead.2.2.2.2.2 30 = some (.invokevirtual 134, 3) := by rw [It_X7_ahead]; rfl
theorem I_X7_ahead_33 : zin zm_X7_ahead.2.2.2.2.2 33 = some (.ireturn, 1) := by rw [It_X7_ahead]; rfl
theorem I_X7_rehearse_0 : zin zm_X7_rehearse.2.2.2.2.2 0 = some (.aload_n 0, 1) := by rw [It_X7_rehearse]; rfl
theorem I_X7_rehearse_1 : zin zm_X7_rehearse.2.2.2.2.2 1 = some (.getfield 26, 3) := by rw [It_X7_rehearse]; rfl
theorem I_X7_rehearse_4 : zin zm_X7_rehearse.2.2.2.2.2 4 = some (.getfield 173, 3) := by rw [It_X7_rehearse]; rfl
theorem I_X7_rehearse_7 : zin zm_X7_rehearse.2.2.2.2.2 7 = some (.aload_n 0, 1) := by rw [It_X7_rehearse]; rfl
theorem I_X7_rehearse_8 : zin zm_X7_rehearse.2.2.2.2.2 8 = some (.getfield 19, 3) := by rw [It_X7_rehearse]; rfl
theorem I_X7_rehearse_11 : zin zm_X7_rehearse.2.2.2.2.2 11 = some (.invokevirtual 77, 3) := by rw [It_X7_rehearse]; rfl
theorem I_X7_rehearse_14 : zin zm_X7_rehearse.2.2.2.2.2 14 = some (.aload_n 0, 1) := by rw [It_X7_rehearse]; rfl
theorem I_X7_rehearse_15 : zin zm_X7_rehearse.2.2.2.2.2 15 = some (.getfield 26, 3) := by rw [It_X7_rehearse]; rfl
theorem I_X7_rehearse_18 : zin zm_X7_rehearse.2.2.2.2.2 18 = some (.bipush 31, 2) := by rw [It_X7_rehearse]; rfl
theorem I_X7_rehearse_20 : zin zm_X7_rehearse.2.2.2.2.2 20 = some (.invokevirtual 179, 3) := by rw [It_X7_rehearse]; rfl
theorem I_X7_rehearse_23 : zin zm_X7_rehearse.2.2.2.2.2 23 = some (.ireturn, 1) := by rw [It_X7_rehearse]; rfl
theorem I_X7_round_0 : zin zm_X7_round.2.2.2.2.2 0 = some (.aload_n 0, 1) := by rw [It_X7_round]; rfl
theorem I_X7_round_1 : zin zm_X7_round.2.2.2.2.2 1 = some (.getfield 26, 3) := by rw [It_X7_round]; rfl
theorem I_X7_round_4 : zin zm_X7_round.2.2.2.2.2 4 = some (.getfield 173, 3) := by rw [It_X7_round]; rfl
theorem I_X7_round_7 : zin zm_X7_round.2.2.2.2.2 7 = some (.aload_n 0, 1) := by rw [It_X7_round]; rfl
theorem I_X7_round_8 : zin zm_X7_round.2.2.2.2.2 8 = some (.getfield 19, 3) := by rw [It_X7_round]; rfl
theorem I_X7_round_11 : zin zm_X7_round.2.2.2.2.2 11 = some (.invokevirtual 77, 3) := by rw [It_X7_round]; rfl
theorem I_X7_round_14 : zin zm_X7_round.2.2.2.2.2 14 = some (.iconst 1, 1) := by rw [It_X7_round]; rfl
theorem I_X7_round_15 : zin zm_X7_round.2.2.2.2.2 15 = some (.istore_n 1, 1) := by rw [It_X7_round]; rfl
theorem I_X7_round_16 : zin zm_X7_round.2.2.2.2.2 16 = some (.iload_n 1, 1) := by rw [It_X7_round]; rfl
theorem I_X7_round_17 : zin zm_X7_round.2.2.2.2.2 17 = some (.bipush 60, 2) := by rw [It_X7_round]; rfl
theorem I_X7_round_19 : zin zm_X7_round.2.2.2.2.2 19 = some (.if_icmp .gt 33, 3) := by rw [It_X7_round]; rfl
theorem I_X7_round_22 : zin zm_X7_round.2.2.2.2.2 22 = some (.aload_n 0, 1) := by rw [It_X7_round]; rfl
theorem I_X7_round_23 : zin zm_X7_round.2.2.2.2.2 23 = some (.getfield 26, 3) := by rw [It_X7_round]; rfl
theorem I_X7_round_26 : zin zm_X7_round.2.2.2.2.2 26 = some (.bipush 31, 2) := by rw [It_X7_round]; rfl
theorem I_X7_round_28 : zin zm_X7_round.2.2.2.2.2 28 = some (.invokevirtual 179, 3) := by rw [It_X7_round]; rfl
theorem I_X7_round_31 : zin zm_X7_round.2.2.2.2.2 31 = some (.pop, 1) := by rw [It_X7_round]; rfl
theorem I_X7_round_32 : zin zm_X7_round.2.2.2.2.2 32 = some (.aload_n 0, 1) := by rw [It_X7_round]; rfl
theorem I_X7_round_33 : zin zm_X7_round.2.2.2.2.2 33 = some (.getfield 26, 3) := by rw [It_X7_round]; rfl
theorem I_X7_round_36 : zin zm_X7_round.2.2.2.2.2 36 = some (.getfield 170, 3) := by rw [It_X7_round]; rfl
theorem I_X7_round_39 : zin zm_X7_round.2.2.2.2.2 39 = some (.bipush (-4), 2) := by rw [It_X7_round]; rfl
theorem I_X7_round_41 : zin zm_X7_round.2.2.2.2.2 41 = some (.if_icmp .eq 5, 3) := by rw [It_X7_round]; rfl
theorem I_X7_round_44 : zin zm_X7_round.2.2.2.2.2 44 = some (.iload_n 1, 1) := by rw [It_X7_round]; rfl
theorem I_X7_round_45 : zin zm_X7_round.2.2.2.2.2 45 = some (.ireturn, 1) := by rw [It_X7_round]; rfl
theorem I_X7_round_46 : zin zm_X7_round.2.2.2.2.2 46 = some (.iinc 1 1, 3) := by rw [It_X7_round]; rfl
theorem I_X7_round_49 : zin zm_X7_round.2.2.2.2.2 49 = some (.goto (-33), 3) := by rw [It_X7_round]; rfl
theorem I_X7_round_52 : zin zm_X7_round.2.2.2.2.2 52 = some (.bipush (-4), 2) := by rw [It_X7_round]; rfl
theorem I_X7_round_54 : zin zm_X7_round.2.2.2.2.2 54 = some (.ireturn, 1) := by rw [It_X7_round]; rfl
theorem I_X7_runs_0 : zin zm_X7_runs.2.2.2.2.2 0 = some (.iload_n 1, 1) := by rw [It_X7_runs]; rfl
theorem I_X7_runs_1 : zin zm_X7_runs.2.2.2.2.2 1 = some (.ifCond .lt 8, 3) := by rw [It_X7_runs]; rfl
theorem I_X7_runs_4 : zin zm_X7_runs.2.2.2.2.2 4 = some (.iload_n 1, 1) := by rw [It_X7_runs]; rfl
theorem I_X7_runs_5 : zin zm_X7_runs.2.2.2.2.2 5 = some (.iconst 3, 1) := by rw [It_X7_runs]; rfl
theorem I_X7_runs_6 : zin zm_X7_runs.2.2.2.2.2 6 = some (.if_icmp .le 5, 3) := by rw [It_X7_runs]; rfl
theorem I_X7_runs_9 : zin zm_X7_runs.2.2.2.2.2 9 = some (.iconst (-1), 1) := by rw [It_X7_runs]; rfl
theorem I_X7_runs_10 : zin zm_X7_runs.2.2.2.2.2 10 = some (.ireturn, 1) := by rw [It_X7_runs]; rfl
theorem I_X7_runs_11 : zin zm_X7_runs.2.2.2.2.2 11 = some (.aload_n 0, 1) := by rw [It_X7_runs]; rfl
theorem I_X7_runs_12 : zin zm_X7_runs.2.2.2.2.2 12 = some (.invokevirtual 161, 3) := by rw [It_X7_runs]; rfl
theorem I_X7_runs_15 : zin zm_X7_runs.2.2.2.2.2 15 = some (.pop, 1) := by rw [It_X7_runs]; rfl
theorem I_X7_runs_16 : zin zm_X7_runs.2.2.2.2.2 16 = some (.iload_n 1, 1) := by rw [It_X7_runs]; rfl
theorem I_X7_runs_17 : zin zm_X7_runs.2.2.2.2.2 17 = some (.tableswitch 51 0 2 #[27, 35, 43], 27) := by rw [It_X7_runs]; rfl
theorem I_X7_runs_44 : zin zm_X7_runs.2.2.2.2.2 44 = some (.aload_n 0, 1) := by rw [It_X7_runs]; rfl
theorem I_X7_runs_45 : zin zm_X7_runs.2.2.2.2.2 45 = some (.getfield 26, 3) := by rw [It_X7_runs]; rfl
theorem I_X7_runs_48 : zin zm_X7_runs.2.2.2.2.2 48 = some (.getfield 164, 3) := by rw [It_X7_runs]; rfl
theorem I_X7_runs_51 : zin zm_X7_runs.2.2.2.2.2 51 = some (.ireturn, 1) := by rw [It_X7_runs]; rfl
theorem I_X7_runs_52 : zin zm_X7_runs.2.2.2.2.2 52 = some (.aload_n 0, 1) := by rw [It_X7_runs]; rfl
theorem I_X7_runs_53 : zin zm_X7_runs.2.2.2.2.2 53 = some (.getfield 26, 3) := by rw [It_X7_runs]; rfl
theorem I_X7_runs_56 : zin zm_X7_runs.2.2.2.2.2 56 = some (.getfield 167, 3) := by rw [It_X7_runs]; rfl
theorem I_X7_runs_59 : zin zm_X7_runs.2.2.2.2.2 59 = some (.ireturn, 1) := by rw [It_X7_runs]; rfl
theorem I_X7_runs_60 : zin zm_X7_runs.2.2.2.2.2 60 = some (.aload_n 0, 1) := by rw [It_X7_runs]; rfl
theorem I_X7_runs_61 : zin zm_X7_runs.2.2.2.2.2 61 = some (.getfield 26, 3) := by rw [It_X7_runs]; rfl
theorem I_X7_runs_64 : zin zm_X7_runs.2.2.2.2.2 64 = some (.getfield 170, 3) := by rw [It_X7_runs]; rfl
theorem I_X7_runs_67 : zin zm_X7_runs.2.2.2.2.2 67 = some (.ireturn, 1) := by rw [It_X7_runs]; rfl
theorem I_X7_runs_68 : zin zm_X7_runs.2.2.2.2.2 68 = some (.aload_n 0, 1) := by rw [It_X7_runs]; rfl
theorem I_X7_runs_69 : zin zm_X7_runs.2.2.2.2.2 69 = some (.getfield 26, 3) := by rw [It_X7_runs]; rfl
theorem I_X7_runs_72 : zin zm_X7_runs.2.2.2.2.2 72 = some (.getfield 173, 3) := by rw [It_X7_runs]; rfl
theorem I_X7_runs_75 : zin zm_X7_runs.2.2.2.2.2 75 = some (.invokevirtual 176, 3) := by rw [It_X7_runs]; rfl
theorem I_X7_runs_78 : zin zm_X7_runs.2.2.2.2.2 78 = some (.ireturn, 1) := by rw [It_X7_runs]; rfl
theorem I_X8_ahead_0 : zin zm_X8_ahead.2.2.2.2.2 0 = some (.aload_n 0, 1) := by rw [It_X8_ahead]; rfl
theorem I_X8_ahead_1 : zin zm_X8_ahead.2.2.2.2.2 1 = some (.iload_n 1, 1) := by rw [It_X8_ahead]; rfl
theorem I_X8_ahead_2 : zin zm_X8_ahead.2.2.2.2.2 2 = some (.invokevirtual 151, 3) := by rw [It_X8_ahead]; rfl
theorem I_X8_ahead_5 : zin zm_X8_ahead.2.2.2.2.2 5 = some (.ifCond .ne 5, 3) := by rw [It_X8_ahead]; rfl
theorem I_X8_ahead_8 : zin zm_X8_ahead.2.2.2.2.2 8 = some (.iconst (-1), 1) := by rw [It_X8_ahead]; rfl
theorem I_X8_ahead_9 : zin zm_X8_ahead.2.2.2.2.2 9 = some (.ireturn, 1) := by rw [It_X8_ahead]; rfl
theorem I_X8_ahead_10 : zin zm_X8_ahead.2.2.2.2.2 10 = some (.aload_n 0, 1) := by rw [It_X8_ahead]; rfl
theorem I_X8_ahead_11 : zin zm_X8_ahead.2.2.2.2.2 11 = some (.iconst 0, 1) := by rw [It_X8_ahead]; rfl
theorem I_X8_ahead_12 : zin zm_X8_ahead.2.2.2.2.2 12 = some (.invokevirtual 195, 3) := by rw [It_X8_ahead]; rfl
theorem I_X8_ahead_15 : zin zm_X8_ahead.2.2.2.2.2 15 = some (.aload_n 0, 1) := by rw [It_X8_ahead]; rfl
theorem I_X8_ahead_16 : zin zm_X8_ahead.2.2.2.2.2 16 = some (.bipush 108, 2) := by rw [It_X8_ahead]; rfl
theorem I_X8_ahead_18 : zin zm_X8_ahead.2.2.2.2.2 18 = some (.iload_n 1, 1) := by rw [It_X8_ahead]; rfl
theorem I_X8_ahead_19 : zin zm_X8_ahead.2.2.2.2.2 19 = some (.invokevirtual 141, 3) := by rw [It_X8_ahead]; rfl
theorem I_X8_ahead_22 : zin zm_X8_ahead.2.2.2.2.2 22 = some (.ireturn, 1) := by rw [It_X8_ahead]; rfl
theorem I_X8_mostOn_0 : zin zm_X8_mostOn.2.2.2.2.2 0 = some (.bipush (-4), 2) := by rw [It_X8_mostOn]; rfl
theorem I_X8_mostOn_2 : zin zm_X8_mostOn.2.2.2.2.2 2 = some (.istore_n 2, 1) := by rw [It_X8_mostOn]; rfl
theorem I_X8_mostOn_3 : zin zm_X8_mostOn.2.2.2.2.2 3 = some (.iconst 0, 1) := by rw [It_X8_mostOn]; rfl
theorem I_X8_mostOn_4 : zin zm_X8_mostOn.2.2.2.2.2 4 = some (.istore_n 3, 1) := by rw [It_X8_mostOn]; rfl
theorem I_X8_mostOn_5 : zin zm_X8_mostOn.2.2.2.2.2 5 = some (.iload_n 3, 1) := by rw [It_X8_mostOn]; rfl
theorem I_X8_mostOn_6 : zin zm_X8_mostOn.2.2.2.2.2 6 = some (.aload_n 0, 1) := by rw [It_X8_mostOn]; rfl
theorem I_X8_mostOn_7 : zin zm_X8_mostOn.2.2.2.2.2 7 = some (.getfield 131, 3) := by rw [It_X8_mostOn]; rfl
theorem I_X8_mostOn_10 : zin zm_X8_mostOn.2.2.2.2.2 10 = some (.if_icmp .ge 30, 3) := by rw [It_X8_mostOn]; rfl
theorem I_X8_mostOn_13 : zin zm_X8_mostOn.2.2.2.2.2 13 = some (.aload_n 0, 1) := by rw [It_X8_mostOn]; rfl
theorem I_X8_mostOn_14 : zin zm_X8_mostOn.2.2.2.2.2 14 = some (.iload_n 1, 1) := by rw [It_X8_mostOn]; rfl
theorem I_X8_mostOn_15 : zin zm_X8_mostOn.2.2.2.2.2 15 = some (.iload_n 3, 1) := by rw [It_X8_mostOn]; rfl
theorem I_X8_mostOn_16 : zin zm_X8_mostOn.2.2.2.2.2 16 = some (.invokevirtual 141, 3) := by rw [It_X8_mostOn]; rfl
theorem I_X8_mostOn_19 : zin zm_X8_mostOn.2.2.2.2.2 19 = some (.iload_n 2, 1) := by rw [It_X8_mostOn]; rfl
theorem I_X8_mostOn_20 : zin zm_X8_mostOn.2.2.2.2.2 20 = some (.if_icmp .le 12, 3) := by rw [It_X8_mostOn]; rfl
theorem I_X8_mostOn_23 : zin zm_X8_mostOn.2.2.2.2.2 23 = some (.aload_n 0, 1) := by rw [It_X8_mostOn]; rfl
theorem I_X8_mostOn_24 : zin zm_X8_mostOn.2.2.2.2.2 24 = some (.iload_n 1, 1) := by rw [It_X8_mostOn]; rfl
theorem I_X8_mostOn_25 : zin zm_X8_mostOn.2.2.2.2.2 25 = some (.iload_n 3, 1) := by rw [It_X8_mostOn]; rfl
theorem I_X8_mostOn_26 : zin zm_X8_mostOn.2.2.2.2.2 26 = some (.invokevirtual 141, 3) := by rw [It_X8_mostOn]; rfl
theorem I_X8_mostOn_29 : zin zm_X8_mostOn.2.2.2.2.2 29 = some (.goto 4, 3) := by rw [It_X8_mostOn]; rfl
theorem I_X8_mostOn_32 : zin zm_X8_mostOn.2.2.2.2.2 32 = some (.iload_n 2, 1) := by rw [It_X8_mostOn]; rfl
theorem I_X8_mostOn_33 : zin zm_X8_mostOn.2.2.2.2.2 33 = some (.istore_n 2, 1) := by rw [It_X8_mostOn]; rfl
theorem I_X8_mostOn_34 : zin zm_X8_mostOn.2.2.2.2.2 34 = some (.iinc 3 1, 3) := by rw [It_X8_mostOn]; rfl
theorem I_X8_mostOn_37 : zin zm_X8_mostOn.2.2.2.2.2 37 = some (.goto (-32), 3) := by rw [It_X8_mostOn]; rfl
theorem I_X8_mostOn_40 : zin zm_X8_mostOn.2.2.2.2.2 40 = some (.iload_n 2, 1) := by rw [It_X8_mostOn]; rfl
theorem I_X8_mostOn_41 : zin zm_X8_mostOn.2.2.2.2.2 41 = some (.ireturn, 1) := by rw [It_X8_mostOn]; rfl
theorem I_X8_round_0 : zin zm_X8_round.2.2.2.2.2 0 = some (.aload_n 0, 1) := by rw [It_X8_round]; rfl
theorem I_X8_round_1 : zin zm_X8_round.2.2.2.2.2 1 = some (.iconst 0, 1) := by rw [It_X8_round]; rfl
theorem I_X8_round_2 : zin zm_X8_round.2.2.2.2.2 2 = some (.bipush 108, 2) := by rw [It_X8_round]; rfl
theorem I_X8_round_4 : zin zm_X8_round.2.2.2.2.2 4 = some (.invokevirtual 188, 3) := by rw [It_X8_round]; rfl
theorem I_X8_round_7 : zin zm_X8_round.2.2.2.2.2 7 = some (.iconst 1, 1) := by rw [It_X8_round]; rfl
theorem I_X8_round_8 : zin zm_X8_round.2.2.2.2.2 8 = some (.istore_n 1, 1) := by rw [It_X8_round]; rfl
theorem I_X8_round_9 : zin zm_X8_round.2.2.2.2.2 9 = some (.iload_n 1, 1) := by rw [It_X8_round]; rfl
theorem I_X8_round_10 : zin zm_X8_round.2.2.2.2.2 10 = some (.bipush 60, 2) := by rw [It_X8_round]; rfl
theorem I_X8_round_12 : zin zm_X8_round.2.2.2.2.2 12 = some (.if_icmp .gt 25, 3) := by rw [It_X8_round]; rfl
theorem I_X8_round_15 : zin zm_X8_round.2.2.2.2.2 15 = some (.aload_n 0, 1) := by rw [It_X8_round]; rfl
theorem I_X8_round_16 : zin zm_X8_round.2.2.2.2.2 16 = some (.iconst 0, 1) := by rw [It_X8_round]; rfl
theorem I_X8_round_17 : zin zm_X8_round.2.2.2.2.2 17 = some (.invokevirtual 192, 3) := by rw [It_X8_round]; rfl
theorem I_X8_round_20 : zin zm_X8_round.2.2.2.2.2 20 = some (.aload_n 0, 1) := by rw [It_X8_round]; rfl
theorem I_X8_round_21 : zin zm_X8_round.2.2.2.2.2 21 = some (.getfield 185, 3) := by rw [It_X8_round]; rfl
theorem I_X8_round_24 : zin zm_X8_round.2.2.2.2.2 24 = some (.bipush (-4), 2) := by rw [It_X8_round]; rfl
theorem I_X8_round_26 : zin zm_X8_round.2.2.2.2.2 26 = some (.if_icmp .eq 5, 3) := by rw [It_X8_round]; rfl
theorem I_X8_round_29 : zin zm_X8_round.2.2.2.2.2 29 = some (.iload_n 1, 1) := by rw [It_X8_round]; rfl
theorem I_X8_round_30 : zin zm_X8_round.2.2.2.2.2 30 = some (.ireturn, 1) := by rw [It_X8_round]; rfl
theorem I_X8_round_31 : zin zm_X8_round.2.2.2.2.2 31 = some (.iinc 1 1, 3) := by rw [It_X8_round]; rfl
theorem I_X8_round_34 : zin zm_X8_round.2.2.2.2.2 34 = some (.goto (-25), 3) := by rw [It_X8_round]; rfl
theorem I_X8_round_37 : zin zm_X8_round.2.2.2.2.2 37 = some (.bipush (-4), 2) := by rw [It_X8_round]; rfl
theorem I_X8_round_39 : zin zm_X8_round.2.2.2.2.2 39 = some (.ireturn, 1) := by rw [It_X8_round]; rfl
theorem I_X8_runs_0 : zin zm_X8_runs.2.2.2.2.2 0 = some (.iload_n 1, 1) := by rw [It_X8_runs]; rfl
theorem I_X8_runs_1 : zin zm_X8_runs.2.2.2.2.2 1 = some (.i2l, 1) := by rw [It_X8_runs]; rfl
theorem I_X8_runs_2 : zin zm_X8_runs.2.2.2.2.2 2 = some (.lconst 0, 1) := by rw [It_X8_runs]; rfl
theorem I_X8_runs_3 : zin zm_X8_runs.2.2.2.2.2 3 = some (.ldc2_w 155, 3) := by rw [It_X8_runs]; rfl
theorem I_X8_runs_6 : zin zm_X8_runs.2.2.2.2.2 6 = some (.invokestatic 55, 3) := by rw [It_X8_runs]; rfl
theorem I_X8_runs_9 : zin zm_X8_runs.2.2.2.2.2 9 = some (.ifCond .ne 5, 3) := by rw [It_X8_runs]; rfl
theorem I_X8_runs_12 : zin zm_X8_runs.2.2.2.2.2 12 = some (.iconst (-1), 1) := by rw [It_X8_runs]; rfl
theorem I_X8_runs_13 : zin zm_X8_runs.2.2.2.2.2 13 = some (.ireturn, 1) := by rw [It_X8_runs]; rfl
theorem I_X8_runs_14 : zin zm_X8_runs.2.2.2.2.2 14 = some (.aload_n 0, 1) := by rw [It_X8_runs]; rfl
theorem I_X8_runs_15 : zin zm_X8_runs.2.2.2.2.2 15 = some (.iconst 0, 1) := by rw [It_X8_runs]; rfl
theorem I_X8_runs_16 : zin zm_X8_runs.2.2.2.2.2 16 = some (.invokevirtual 195, 3) := by rw [It_X8_runs]; rfl
theorem I_X8_runs_19 : zin zm_X8_runs.2.2.2.2.2 19 = some (.iload_n 1, 1) := by rw [It_X8_runs]; rfl
theorem I_X8_runs_20 : zin zm_X8_runs.2.2.2.2.2 20 = some (.ifCond .ne 10, 3) := by rw [It_X8_runs]; rfl
theorem I_X8_runs_23 : zin zm_X8_runs.2.2.2.2.2 23 = some (.aload_n 0, 1) := by rw [It_X8_runs]; rfl
theorem I_X8_runs_24 : zin zm_X8_runs.2.2.2.2.2 24 = some (.getfield 179, 3) := by rw [It_X8_runs]; rfl
theorem I_X8_runs_27 : zin zm_X8_runs.2.2.2.2.2 27 = some (.goto 33, 3) := by rw [It_X8_runs]; rfl
theorem I_X8_runs_30 : zin zm_X8_runs.2.2.2.2.2 30 = some (.iload_n 1, 1) := by rw [It_X8_runs]; rfl
theorem I_X8_runs_31 : zin zm_X8_runs.2.2.2.2.2 31 = some (.iconst 1, 1) := by rw [It_X8_runs]; rfl
theorem I_X8_runs_32 : zin zm_X8_runs.2.2.2.2.2 32 = some (.if_icmp .ne 10, 3) := by rw [It_X8_runs]; rfl
theorem I_X8_runs_35 : zin zm_X8_runs.2.2.2.2.2 35 = some (.aload_n 0, 1) := by rw [It_X8_runs]; rfl
theorem I_X8_runs_36 : zin zm_X8_runs.2.2.2.2.2 36 = some (.getfield 182, 3) := by rw [It_X8_runs]; rfl
theorem I_X8_runs_39 : zin zm_X8_runs.2.2.2.2.2 39 = some (.goto 21, 3) := by rw [It_X8_runs]; rfl
theorem I_X8_runs_42 : zin zm_X8_runs.2.2.2.2.2 42 = some (.iload_n 1, 1) := by rw [It_X8_runs]; rfl
theorem I_X8_runs_43 : zin zm_X8_runs.2.2.2.2.2 43 = some (.iconst 2, 1) := by rw [It_X8_runs]; rfl
theorem I_X8_runs_44 : zin zm_X8_runs.2.2.2.2.2 44 = some (.if_icmp .ne 10, 3) := by rw [It_X8_runs]; rfl
theorem I_X8_runs_47 : zin zm_X8_runs.2.2.2.2.2 47 = some (.aload_n 0, 1) := by rw [It_X8_runs]; rfl
theorem I_X8_runs_48 : zin zm_X8_runs.2.2.2.2.2 48 = some (.getfield 185, 3) := by rw [It_X8_runs]; rfl
theorem I_X8_runs_51 : zin zm_X8_runs.2.2.2.2.2 51 = some (.goto 9, 3) := by rw [It_X8_runs]; rfl
theorem I_X8_runs_54 : zin zm_X8_runs.2.2.2.2.2 54 = some (.aload_n 0, 1) := by rw [It_X8_runs]; rfl
theorem I_X8_runs_55 : zin zm_X8_runs.2.2.2.2.2 55 = some (.bipush 108, 2) := by rw [It_X8_runs]; rfl
theorem I_X8_runs_57 : zin zm_X8_runs.2.2.2.2.2 57 = some (.invokevirtual 198, 3) := by rw [It_X8_runs]; rfl
theorem I_X8_runs_60 : zin zm_X8_runs.2.2.2.2.2 60 = some (.ireturn, 1) := by rw [It_X8_runs]; rfl
theorem I_X8_tries_0 : zin zm_X8_tries.2.2.2.2.2 0 = some (.aload_n 0, 1) := by rw [It_X8_tries]; rfl
theorem I_X8_tries_1 : zin zm_X8_tries.2.2.2.2.2 1 = some (.iload_n 1, 1) := by rw [It_X8_tries]; rfl
theorem I_X8_tries_2 : zin zm_X8_tries.2.2.2.2.2 2 = some (.bipush 108, 2) := by rw [It_X8_tries]; rfl
theorem I_X8_tries_4 : zin zm_X8_tries.2.2.2.2.2 4 = some (.invokevirtual 188, 3) := by rw [It_X8_tries]; rfl
theorem I_X8_tries_7 : zin zm_X8_tries.2.2.2.2.2 7 = some (.aload_n 0, 1) := by rw [It_X8_tries]; rfl
theorem I_X8_tries_8 : zin zm_X8_tries.2.2.2.2.2 8 = some (.iconst 0, 1) := by rw [It_X8_tries]; rfl
theorem I_X8_tries_9 : zin zm_X8_tries.2.2.2.2.2 9 = some (.invokevirtual 192, 3) := by rw [It_X8_tries]; rfl
theorem I_X8_tries_12 : zin zm_X8_tries.2.2.2.2.2 12 = some (.return_, 1) := by rw [It_X8_tries]; rfl
theorem G_7_26 : zlk zfls 7 26 = some (7, 2, 301) := rfl
theorem G_7_164 : zlk zfls 7 164 = some (3, 2, 212) := rfl
theorem G_7_167 : zlk zfls 7 167 = some (3, 3, 214) := rfl
theorem G_7_170 : zlk zfls 7 170 = some (3, 4, 216) := rfl
theorem G_7_173 : zlk zfls 7 173 = some (3, 0, 208) := rfl
theorem K_0_65 : zlk zmls 0 65 = some (5, 0, 2, 615) := rfl
theorem K_7_161 : zlk zmls 7 161 = some (0, 82, 0, 594) := rfl
theorem K_7_176 : zlk zmls 7 176 = some (0, 11, 0, 611) := rfl
theorem K_7_179 : zlk zmls 7 179 = some (0, 44, 1, 598) := rfl
theorem K_8_192 : zlk zmls 8 192 = some (0, 148, 1, 1084) := rfl
theorem K_8_195 : zlk zmls 8 195 = some (0, 149, 1, 1076) := rfl
theorem K_8_198 : zlk zmls 8 198 = some (0, 131, 1, 1088) := rfl
theorem Zm_11 : zms[11]? = some zm_X0_greatest := rfl
theorem Zm_44 : zms[44]? = some zm_X3_play := rfl
theorem Zm_82 : zms[82]? = some zm_X7_rehearse := rfl
theorem Zm_131 : zms[131]? = some zm_X8_mostOn := rfl
theorem Zm_148 : zms[148]? = some zm_X8_planGoes := rfl
theorem Zm_149 : zms[149]? = some zm_X8_tries := rfl
theorem cl_X0_greatest : zm_X0_greatest.2.2.2.2.1 = 0 := by
  unfold zm_X0_greatest
  rfl
theorem cn_X0_greatest : zm_X0_greatest.2.2.2.2.1 ≠ 12 := by
  rw [cl_X0_greatest]
  decide
theorem cn2_X0_greatest : zm_X0_greatest.2.2.2.2.1 ≠ 2 := by
  rw [cl_X0_greatest]
  decide
theorem cl_X7_ahead : zm_X7_ahead.2.2.2.2.1 = 7 := by
  unfold zm_X7_ahead
  rfl
theorem cn_X7_ahead : zm_X7_ahead.2.2.2.2.1 ≠ 12 := by
  rw [cl_X7_ahead]
  decide
theorem cn2_X7_ahead : zm_X7_ahead.2.2.2.2.1 ≠ 2 := by
  rw [cl_X7_ahead]
  decide
theorem cl_X7_rehearse : zm_X7_rehearse.2.2.2.2.1 = 7 := by
  unfold zm_X7_rehearse
  rfl
theorem cn_X7_rehearse : zm_X7_rehearse.2.2.2.2.1 ≠ 12 := by
  rw [cl_X7_rehearse]
  decide
theorem cn2_X7_rehearse : zm_X7_rehearse.2.2.2.2.1 ≠ 2 := by
  rw [cl_X7_rehearse]
  decide
theorem cl_X7_round : zm_X7_round.2.2.2.2.1 = 7 := by
  unfold zm_X7_round
  rfl
theorem cn_X7_round : zm_X7_round.2.2.2.2.1 ≠ 12 := by
  rw [cl_X7_round]
  decide
theorem cn2_X7_round : zm_X7_round.2.2.2.2.1 ≠ 2 := by
  rw [cl_X7_round]
  decide
theorem cl_X7_runs : zm_X7_runs.2.2.2.2.1 = 7 := by
  unfold zm_X7_runs
  rfl
theorem cn_X7_runs : zm_X7_runs.2.2.2.2.1 ≠ 12 := by
  rw [cl_X7_runs]
  decide
theorem cn2_X7_runs : zm_X7_runs.2.2.2.2.1 ≠ 2 := by
  rw [cl_X7_runs]
  decide
theorem cl_X8_mostOn : zm_X8_mostOn.2.2.2.2.1 = 8 := by
  unfold zm_X8_mostOn
  rfl
theorem cn_X8_mostOn : zm_X8_mostOn.2.2.2.2.1 ≠ 12 := by
  rw [cl_X8_mostOn]
  decide
theorem cn2_X8_mostOn : zm_X8_mostOn.2.2.2.2.1 ≠ 2 := by
  rw [cl_X8_mostOn]
  decide
theorem cl_X8_round : zm_X8_round.2.2.2.2.1 = 8 := by
  unfold zm_X8_round
  rfl
theorem cn_X8_round : zm_X8_round.2.2.2.2.1 ≠ 12 := by
  rw [cl_X8_round]
  decide
theorem cn2_X8_round : zm_X8_round.2.2.2.2.1 ≠ 2 := by
  rw [cl_X8_round]
  decide
theorem cl_X8_runs : zm_X8_runs.2.2.2.2.1 = 8 := by
  unfold zm_X8_runs
  rfl
theorem cn_X8_runs : zm_X8_runs.2.2.2.2.1 ≠ 12 := by
  rw [cl_X8_runs]
  decide
theorem cn2_X8_runs : zm_X8_runs.2.2.2.2.1 ≠ 2 := by
  rw [cl_X8_runs]
  decide
/-- the plan, everybody there -/
def gPl (c : Nat) (g : Nat → Int32) : zPy := pPlays c 31 (zna g) 0 (zPy0 g)
theorem pPlays_ok {c : Nat} {mk : Int32} : ∀ (n i : Nat) (P : zPy), gok P.1 c → gok (pPlays c mk n i P).1 c ∧ ∀ j, 18 ≤ j → (pPlays c mk n i P).1 j = P.1 j
  | 0, _, _, h => ⟨h, fun _ _ => rfl⟩
  | n + 1, i, P, h => by
    obtain ⟨a1, a2⟩ := pAct_ok (i := i) (mk := mk) h
    obtain ⟨b1, b2⟩ := pPlays_ok (mk := mk) n (i + 1) _ a1
    exact ⟨b1, fun j hj => (b2 j hj).trans (a2 j hj)⟩
theorem gPl_ok {c : Nat} {g : Nat → Int32} (h : gok g c) : gok (gPl c g).1 c ∧ ∀ j, 18 ≤ j → (gPl c g).1 j = g j := pPlays_ok (zna g) 0 (zPy0 g) h
theorem pAct_m {c i : Nat} {mk mk2 : Int32} {P : zPy} (h : P.1 (18 + i) &&& mk = P.1 (18 + i) &&& mk2) : pAct c mk i P = pAct c mk2 i P := by
  unfold pAct
  rw [h]
theorem pPlays_m {c : Nat} {mk mk2 : Int32} (hm : ∀ k, k < 32 → Int32.ofNat k &&& mk = Int32.ofNat k &&& mk2) : ∀ (n i : Nat) (P : zPy), gok P.1 c → gpl P.1 → i + n ≤ 8 → pPlays c mk n i P = pPlays c mk2 n i P
  | 0, _, _, _, _, _ => rfl
  | n + 1, i, P, h, hp, hn => by
    obtain ⟨h0, h1⟩ := hp i (by omega)
    have e : P.1 (18 + i) = Int32.ofNat (P.1 (18 + i)).toInt.toNat := by
      apply Int32.toInt_inj.mp
      rw [zofn_t (by omega)]
      omega
    have e2 : P.1 (18 + i) &&& mk = P.1 (18 + i) &&& mk2 := by
      rw [e]
      exact hm _ (by omega)
    obtain ⟨a1, a2⟩ := pAct_ok (i := i) (mk := mk2) h
    rw [pPlays, pPlays, pAct_m e2]
    exact pPlays_m hm n (i + 1) _ a1 (fun j hj => by rw [a2 (18 + j) (by omega)]; exact hp j hj) (by omega)
theorem zmk31 : ∀ k, k < 32 → Int32.ofNat k &&& ((0 : Int32) ^^^ -1) = Int32.ofNat k &&& 31 := by decide
theorem gPl_m {c a : Nat} {g : Nat → Int32} (h : gok g c) (hp : gpl g) (ha : g 26 = Int32.ofNat a) (ha8 : a ≤ 8) : pPlays c ((0 : Int32) ^^^ -1) (zna g) 0 (zPy0 g) = gPl c g := by
  have hz : zna g ≤ 8 := by
    unfold zna
    rw [ha, Int32.toNatClampNeg_ofNat_of_lt (by omega)]
    exact ha8
  exact pPlays_m zmk31 (zna g) 0 (zPy0 g) h hp (by omega)
theorem LV_b {m m1 : zM} {k o c a : Nat} {g : Nat → Int32} {Q : Prop} (hL : LV m o c g) (ha : m o 3 = Int32.ofNat a) (ha8 : a ≤ 8) (F : m1 k 2 = m o 2 ∧ m1 k 3 = m o 3 ∧ m1 k 4 = m o 4 ∧ m1 k 5 = m o 5 ∧ (∀ i, i < c → ∀ b, b < 4 → m1 (k + 3 + i) b = m (o + 3 + i) b) ∧ (∀ i, i < a → m1 (k + 2) i = m (o + 2) i) ∧ Q) : LV m1 k c g := by
  obtain ⟨h1, h2, h3, h4, h5, b, b1, b2, b3, b4⟩ := hL
  obtain ⟨f1, f2, f3, f4, f5, f6, _⟩ := F
  have e : a = b := zofn (ha.symm.trans b3) (by omega) (by omega)
  subst e
  refine ⟨by rw [f1]; exact h1, h2, fun i hi => ?_, by rw [f3]; exact h4, by rw [f4]; exact h5, a, b1, b2, by rw [f2]; exact b3, fun i hi => by rw [f6 i hi]; exact b4 i hi⟩
  rw [f5 i hi 0 (by omega), f5 i hi 1 (by omega), f5 i hi 2 (by omega), f5 i hi 3 (by omega)]
  exact h3 i hi
theorem t_X7_rehearse {d : Nat} {m : zM} {r : Option Value} {h' : zHp} {c : Nat} {g : Nat → Int32} (hL : LV m 11 c g) (hg : gok g c) (H : zE none d zm_X7_rehearse 0 [.ref 0] [] m r h') : ∃ m1, r = some (.int (gPl c g).2.1) ∧ h' = zhp m1 ∧ cP m1 c (gPl c g) ∧ ∀ x y, ¬ (19 ≤ x ∧ x ≤ 28) → m1 x y = m x y := by
  have hL0 := hL
  obtain ⟨l1, l2, l3, l4, l5, a, l6, l7, l8, l9⟩ := hL
  replace H := i_aln (q := 1) H I_X7_rehearse_0 rfl rfl
  replace H := i_gfr (q := 4) H I_X7_rehearse_1 G_7_26 cn_X7_rehearse LY_0 rfl rfl
  replace H := i_gfr (q := 7) H I_X7_rehearse_4 G_7_173 cn_X7_rehearse LY_19 rfl rfl
  replace H := i_aln (q := 8) H I_X7_rehearse_7 rfl rfl
  replace H := i_gfr (q := 11) H I_X7_rehearse_8 G_7_19 cn_X7_rehearse LY_0 rfl rfl
  have W := i_cv1 1 (q := 14) H I_X7_rehearse_11 K_7_77 Zm_2 rfl rfl
  clear H
  obtain ⟨r1, h1, Hc, K1, K2⟩ := W
  obtain ⟨M_11, e1, e2, F_11⟩ := t_become lkk_20 lkk_11 (by omega) l1 l2 l8 l6 Hc
  have H := K2 _ e1 e2
  clear e1 e2 Hc K1 K2
  replace H := i_aln (q := 15) H I_X7_rehearse_14 rfl rfl
  replace H := i_gfr (q := 18) H I_X7_rehearse_15 G_7_26 cn_X7_rehearse LY_0 rfl rfl
  replace H := i_bip (x := 31) (q := 20) H I_X7_rehearse_18 (by decide) rfl
  have W := i_cv1 2 (q := 23) H I_X7_rehearse_20 K_7_179 Zm_44 rfl rfl
  clear H
  obtain ⟨r1, h1, Hc, K1, K2⟩ := W
  obtain ⟨M_20, e1, e2, F_20⟩ := t_X3_play (LV_b hL0 l8 l6 F_11) hg Hc
  have H := K1 _ _ e1 e2
  clear e1 e2 Hc K1 K2
  obtain ⟨hr, hh⟩ := i_ir H I_X7_rehearse_23
  exact ⟨M_20, hr, hh, F_20.1, fun x y hxy => (F_20.2 x y hxy).trans (F_11.2.2.2.2.2.2 x y (by omega))⟩
theorem gr_loop {m : zM} {k c : Nat} (hk : zlk6 k) (hc : m k 2 = Int32.ofNat c) (hc5 : c ≤ 5) : ∀ (j i d : Nat) (r : Option Value) (h' : zHp), i + j = c → zE none d zm_X0_greatest 5 [.ref k, .int (zmx (zcf m k) i), .int (Int32.ofNat i)] [] m r h' → r = some (.int (zmx (zcf m k) c)) ∧ h' = zhp m := by
  intro j
  induction j with
  | zero =>
    intro i d r h' hj H
    replace H := i_iln (q := 6) H I_X0_greatest_5 rfl rfl
    replace H := i_aln (q := 7) H I_X0_greatest_6 rfl rfl
    replace H := i_gfi (q := 10) H I_X0_greatest_7 G_0_26 cn_X0_greatest (lk_0 hk) rfl rfl
    have W := i_ic_ge (t := 33) (q := 13) H I_X0_greatest_10 (by decide) rfl
    clear H
    rcases W with ⟨c_10, H⟩ | ⟨c_10, H⟩
    · skip
      replace H := i_iln (q := 34) H I_X0_greatest_33 rfl rfl
      obtain ⟨hr, hh⟩ := i_ir H I_X0_greatest_34
      have e : i = c := by omega
      subst e
      exact ⟨hr, hh⟩
    · exfalso
      rw [hc] at c_10
      exact absurd ((zofn_lt (by omega) (by omega)).mp c_10) (by omega)
  | succ j ih =>
    intro i d r h' hj H
    replace H := i_iln (q := 6) H I_X0_greatest_5 rfl rfl
    replace H := i_aln (q := 7) H I_X0_greatest_6 rfl rfl
    replace H := i_gfi (q := 10) H I_X0_greatest_7 G_0_26 cn_X0_greatest (lk_0 hk) rfl rfl
    have W := i_ic_ge (t := 33) (q := 13) H I_X0_greatest_10 (by decide) rfl
    clear H
    rcases W with ⟨c_10, H⟩ | ⟨c_10, H⟩
    · exfalso
      rw [hc] at c_10
      exact c_10 ((zofn_lt (by omega) (by omega)).mpr (by omega))
    · skip
      replace H := i_iln (q := 14) H I_X0_greatest_13 rfl rfl
      replace H := i_aln (q := 15) H I_X0_greatest_14 rfl rfl
      replace H := i_gfr (q := 18) H I_X0_greatest_15 G_0_11 cn_X0_greatest (lk_0 hk) rfl rfl
      replace H := i_iln (q := 19) H I_X0_greatest_18 rfl rfl
      have W := i_folk (k := k) hk (q := 20) H I_X0_greatest_19 rfl
      clear H
      obtain ⟨i_19, bi_19, ei_19, H⟩ := W
      have W := i_cv0 0 (q := 23) H I_X0_greatest_20 K_0_51 Zm_20 rfl rfl
      clear H
      obtain ⟨r1, h1, Hc, K1, K2⟩ := W
      obtain ⟨e1, e2⟩ := t_X1_turned (lk_p hk bi_19) Hc
      have H := K1 _ _ e1 e2
      clear e1 e2 Hc K1 K2
      replace H := i_max (q := 26) H I_X0_greatest_23 K_0_65 rfl
      replace H := i_isn (q := 27) H I_X0_greatest_26 rfl rfl
      replace H := i_inc (q := 30) H I_X0_greatest_27 rfl rfl rfl
      replace H := i_goto (q := 5) H I_X0_greatest_30 (by decide)
      have e : i = i_19 := zofn ei_19 (by omega) (by omega)
      subst e
      replace H : zE none d zm_X0_greatest 5 [.ref k, .int (zmx (zcf m k) (i + 1)), .int (Int32.ofNat (i + 1))] [] m r h' := by
        rw [← zofn_s]
        exact H
      exact ih (i + 1) d r h' (by omega) H
theorem t_X0_greatest {d : Nat} {m : zM} {r : Option Value} {h' : zHp} {k c : Nat} (hk : zlk6 k) (hc : m k 2 = Int32.ofNat c) (hc5 : c ≤ 5) (H : zE none d zm_X0_greatest 0 [.ref k, .null, .null] [] m r h') : r = some (.int (zmx (zcf m k) c)) ∧ h' = zhp m := by
  replace H := i_bip (x := (-4)) (q := 2) H I_X0_greatest_0 (by decide) rfl
  replace H := i_isn (q := 3) H I_X0_greatest_2 rfl rfl
  replace H := i_icst (x := 0) (q := 4) H I_X0_greatest_3 (by decide) rfl
  replace H := i_isn (q := 5) H I_X0_greatest_4 rfl rfl
  exact gr_loop hk hc hc5 c 0 d r h' (by omega) H
theorem zmx_g {f u : Nat → Int32} : ∀ (n : Nat), (∀ i, i < n → f i = u i) → zmx f n = zmx u n
  | 0, _ => rfl
  | n + 1, h => by
    rw [zmx, zmx, zmx_g n (fun i hi => h i (by omega)), h n (by omega)]
theorem LV_mx {m : zM} {k c : Nat} {g : Nat → Int32} (h : LV m k c g) : zmx (zcf m k) c = zmx (gcn g) c := zmx_g c (fun i hi => LV_c h hi)
theorem mo_loop {m : zM} {pg c : Nat} {g : Nat → Int32} (hP : PG m pg g) (hc5 : c ≤ 5) (hc : m 71 2 = Int32.ofNat c) : ∀ (j i d : Nat) (r : Option Value) (h' : zHp), i + j = c → zE none d zm_X8_mostOn 5 [.ref 71, .int (Int32.ofNat pg), .int (zmx (gcn g) i), .int (Int32.ofNat i)] [] m r h' → r = some (.int (zmx (gcn g) c)) ∧ h' = zhp m := by
  intro j
  induction j with
  | zero =>
    intro i d r h' hj H
    replace H := i_iln (q := 6) H I_X8_mostOn_5 rfl rfl
    replace H := i_aln (q := 7) H I_X8_mostOn_6 rfl rfl
    replace H := i_gfi (q := 10) H I_X8_mostOn_7 G_8_131 cn_X8_mostOn LY_71 rfl rfl
    have W := i_ic_ge (t := 40) (q := 13) H I_X8_mostOn_10 (by decide) rfl
    clear H
    rcases W with ⟨c_10, H⟩ | ⟨c_10, H⟩
    · skip
      replace H := i_iln (q := 41) H I_X8_mostOn_40 rfl rfl
      obtain ⟨hr, hh⟩ := i_ir H I_X8_mostOn_41
      have e : i = c := by omega
      subst e
      exact ⟨hr, hh⟩
    · exfalso
      rw [hc] at c_10
      exact absurd ((zofn_lt (by omega) (by omega)).mp c_10) (by omega)
  | succ j ih =>
    intro i d r h' hj H
    replace H := i_iln (q := 6) H I_X8_mostOn_5 rfl rfl
    replace H := i_aln (q := 7) H I_X8_mostOn_6 rfl rfl
    replace H := i_gfi (q := 10) H I_X8_mostOn_7 G_8_131 cn_X8_mostOn LY_71 rfl rfl
    have W := i_ic_ge (t := 40) (q := 13) H I_X8_mostOn_10 (by decide) rfl
    clear H
    rcases W with ⟨c_10, H⟩ | ⟨c_10, H⟩
    · exfalso
      rw [hc] at c_10
      exact c_10 ((zofn_lt (by omega) (by omega)).mpr (by omega))
    · skip
      replace H := i_aln (q := 14) H I_X8_mostOn_13 rfl rfl
      replace H := i_iln (q := 15) H I_X8_mostOn_14 rfl rfl
      replace H := i_iln (q := 16) H I_X8_mostOn_15 rfl rfl
      have W := i_cv2 0 (q := 19) H I_X8_mostOn_16 K_8_141 Zm_129 rfl rfl
      clear H
      obtain ⟨r1, h1, Hc, K1, K2⟩ := W
      obtain ⟨e1, e2⟩ := t_X8_countOf hP (by omega) Hc
      have H := K1 _ _ e1 e2
      clear e1 e2 Hc K1 K2
      replace H := i_iln (q := 20) H I_X8_mostOn_19 rfl rfl
      have W := i_ic_le (t := 32) (q := 23) H I_X8_mostOn_20 (by decide) rfl
      clear H
      rcases W with ⟨c_20, H⟩ | ⟨c_20, H⟩
      · skip
        replace H := i_iln (q := 33) H I_X8_mostOn_32 rfl rfl
        replace H := i_isn (q := 34) H I_X8_mostOn_33 rfl rfl
        replace H := i_inc (q := 37) H I_X8_mostOn_34 rfl rfl rfl
        replace H := i_goto (q := 5) H I_X8_mostOn_37 (by decide)
        replace H : zE none d zm_X8_mostOn 5 [.ref 71, .int (Int32.ofNat pg), .int (zmx (gcn g) (i + 1)), .int (Int32.ofNat (i + 1))] [] m r h' := by
          rw [show zmx (gcn g) (i + 1) = zmx (gcn g) i by
            rw [zmx, zmax, if_neg c_20]]
          rw [← zofn_s]
          exact H
        exact ih (i + 1) d r h' (by omega) H
      · skip
        replace H := i_aln (q := 24) H I_X8_mostOn_23 rfl rfl
        replace H := i_iln (q := 25) H I_X8_mostOn_24 rfl rfl
        replace H := i_iln (q := 26) H I_X8_mostOn_25 rfl rfl
        have W := i_cv2 0 (q := 29) H I_X8_mostOn_26 K_8_141 Zm_129 rfl rfl
        clear H
        obtain ⟨r1, h1, Hc, K1, K2⟩ := W
        obtain ⟨e1, e2⟩ := t_X8_countOf hP (by omega) Hc
        have H := K1 _ _ e1 e2
        clear e1 e2 Hc K1 K2
        replace H := i_goto (q := 33) H I_X8_mostOn_29 (by decide)
        replace H := i_isn (q := 34) H I_X8_mostOn_33 rfl rfl
        replace H := i_inc (q := 37) H I_X8_mostOn_34 rfl rfl rfl
        replace H := i_goto (q := 5) H I_X8_mostOn_37 (by decide)
        replace H : zE none d zm_X8_mostOn 5 [.ref 71, .int (Int32.ofNat pg), .int (zmx (gcn g) (i + 1)), .int (Int32.ofNat (i + 1))] [] m r h' := by
          rw [show zmx (gcn g) (i + 1) = gcn g i by
            rw [zmx, zmax, if_pos c_20]]
          rw [← zofn_s]
          exact H
        exact ih (i + 1) d r h' (by omega) H
theorem t_X8_mostOn {d : Nat} {m : zM} {r : Option Value} {h' : zHp} {pg c : Nat} {g : Nat → Int32} (hP : PG m pg g) (hc5 : c ≤ 5) (hc : m 71 2 = Int32.ofNat c) (H : zE none d zm_X8_mostOn 0 [.ref 71, .int (Int32.ofNat pg), .null, .null] [] m r h') : r = some (.int (zmx (gcn g) c)) ∧ h' = zhp m := by
  replace H := i_bip (x := (-4)) (q := 2) H I_X8_mostOn_0 (by decide) rfl
  replace H := i_isn (q := 3) H I_X8_mostOn_2 rfl rfl
  replace H := i_icst (x := 0) (q := 4) H I_X8_mostOn_3 (by decide) rfl
  replace H := i_isn (q := 5) H I_X8_mostOn_4 rfl rfl
  exact mo_loop hP hc5 hc c 0 d r h' (by omega) H
/-- a page copied to the one that is tried -/
theorem PG_cp {m m1 : zM} {g : Nat → Int32} {Q : Prop} (hP : PG m 0 g) (F : (∀ k, k < 27 → m1 72 (108 + k) = m 72 (0 + k)) ∧ Q) : PG m1 108 g := ⟨by omega, fun j hj => (F.1 j hj).trans (hP.2 j hj)⟩
theorem zMk_f {m m1 : zM} (h : zMk m) (hf : ∀ b, m1 73 b = m 73 b) : zMk m1 := ⟨(hf 0).trans h.1, (hf 1).trans h.2.1, (hf 2).trans h.2.2.1, (hf 3).trans h.2.2.2⟩
theorem t_X8_tries {d : Nat} {m : zM} {r : Option Value} {h' : zHp} {c a : Nat} {g : Nat → Int32} (hP : PG m 0 g) (hg : gok g c) (hpl : gpl g) (ha : g 26 = Int32.ofNat a) (ha8 : a ≤ 8) (hc : m 71 2 = Int32.ofNat c) (hM : zMk m) (H : zE none d zm_X8_tries 0 [.ref 71, .int 0] [] m r h') : ∃ m1, r = none ∧ h' = zhp m1 ∧ rP m1 8 (gPl c g) ∧ zfP m m1 := by
  replace H := i_aln (q := 1) H I_X8_tries_0 rfl rfl
  replace H := i_iln (q := 2) H I_X8_tries_1 rfl rfl
  replace H := i_bip (x := 108) (q := 4) H I_X8_tries_2 (by decide) rfl
  have W := i_cv2 1 (q := 7) H I_X8_tries_4 K_8_188 Zm_147 rfl rfl
  clear H
  obtain ⟨r1, h1, Hc, K1, K2⟩ := W
  obtain ⟨M_4, e1, e2, F_4⟩ := t_X8_copies (f := 0) (t := 108) rfl rfl (by omega) (by omega) (by omega) Hc
  have H := K2 _ e1 e2
  clear e1 e2 Hc K1 K2
  replace H := i_aln (q := 8) H I_X8_tries_7 rfl rfl
  replace H := i_icst (x := 0) (q := 9) H I_X8_tries_8 (by decide) rfl
  have W := i_cv1 2 (q := 12) H I_X8_tries_9 K_8_192 Zm_148 rfl rfl
  clear H
  obtain ⟨r1, h1, Hc, K1, K2⟩ := W
  obtain ⟨M_9, e1, e2, F_9⟩ := t_X8_planGoes (g := g) (PG_cp hP F_4) hg ha ha8 hpl ((F_4.2 71 2 (by omega)).trans hc) (zMk_f hM (fun b => F_4.2 73 b (by omega))) Hc
  have H := K2 _ e1 e2
  clear e1 e2 Hc K1 K2
  obtain ⟨hr, hh⟩ := i_rt H I_X8_tries_12
  refine ⟨M_9, hr, hh, ?_, fun x y h1 h2 h3 => (F_9.2 x y h1 h2 h3).trans (F_4.2 x y (by omega))⟩
  rw [← gPl_m hg hpl ha ha8]
  exact F_9.1
def gRuns (c : Nat) (g : Nat → Int32) (w : Int32) : Int32 := if zBt w 0 3 then (if w = 0 then (gPl c g).2.1 else if w = 1 then (gPl c g).2.2.1 else if w = 2 then (gPl c g).2.2.2.1 else zmx (gcn (gPl c g).1) c) else -1
theorem gRuns_n {c : Nat} {g : Nat → Int32} {w : Int32} (h : ¬ zBt w 0 3) : gRuns c g w = -1 := if_neg h
theorem gRuns_y {c : Nat} {g : Nat → Int32} {w : Int32} (h : zBt w 0 3) : gRuns c g w = (if w = 0 then (gPl c g).2.1 else if w = 1 then (gPl c g).2.2.1 else if w = 2 then (gPl c g).2.2.2.1 else zmx (gcn (gPl c g).1) c) := if_pos h
theorem t_X7_runs {d : Nat} {m : zM} {r : Option Value} {h' : zHp} {w : Int32} {c : Nat} {g : Nat → Int32} (hL : LV m 11 c g) (hg : gok g c) (H : zE none d zm_X7_runs 0 [.ref 0, .int w] [] m r h') : r = some (.int (gRuns c g w)) := by
  replace H := i_iln (q := 1) H I_X7_runs_0 rfl rfl
  have W := i_if_lt (t := 9) (q := 4) H I_X7_runs_1 (by decide) rfl
  clear H
  rcases W with ⟨c_1, H⟩ | ⟨c_1, H⟩
  · skip
    replace H := i_icst (x := (-1)) (q := 10) H I_X7_runs_9 (by decide) rfl
    obtain ⟨hr, hh⟩ := i_ir H I_X7_runs_10
    exact hr.trans (by rw [gRuns_n (fun q => q.1 c_1)])
  · skip
    replace H := i_iln (q := 5) H I_X7_runs_4 rfl rfl
    replace H := i_icst (x := 3) (q := 6) H I_X7_runs_5 (by decide) rfl
    have W := i_ic_le (t := 11) (q := 9) H I_X7_runs_6 (by decide) rfl
    clear H
    rcases W with ⟨c_6, H⟩ | ⟨c_6, H⟩
    · skip
      replace H := i_aln (q := 12) H I_X7_runs_11 rfl rfl
      have W := i_cv0 0 (q := 15) H I_X7_runs_12 K_7_161 Zm_82 rfl rfl
      clear H
      obtain ⟨r1, h1, Hc, K1, K2⟩ := W
      obtain ⟨M_12, e1, e2, F_12⟩ := t_X7_rehearse hL hg Hc
      have H := K1 _ _ e1 e2
      clear e1 e2 Hc K1 K2
      replace H := i_pop (q := 16) H I_X7_runs_15 rfl rfl
      replace H := i_iln (q := 17) H I_X7_runs_16 rfl rfl
      have W := i_ts1 0 (q := 44) H I_X7_runs_17 (by decide) rfl (by decide)
      clear H
      rcases W with ⟨w_17_0, H⟩ | ⟨w_17_0, H⟩
      · skip
        replace H := i_aln (q := 45) H I_X7_runs_44 rfl rfl
        replace H := i_gfr (q := 48) H I_X7_runs_45 G_7_26 cn_X7_runs LY_0 rfl rfl
        replace H := i_gfi (q := 51) H I_X7_runs_48 G_7_164 cn_X7_runs LY_19 rfl rfl
        obtain ⟨hr, hh⟩ := i_ir H I_X7_runs_51
        obtain ⟨P1, P2, P3, P4, P5⟩ := F_12.1
        exact hr.trans (by rw [gRuns_y ⟨c_1, c_6⟩, if_pos w_17_0, P2])
      · skip
        have W := i_ts1 1 (q := 52) H I_X7_runs_17 (by decide) rfl (by decide)
        clear H
        rcases W with ⟨w_17_1, H⟩ | ⟨w_17_1, H⟩
        · skip
          replace H := i_aln (q := 53) H I_X7_runs_52 rfl rfl
          replace H := i_gfr (q := 56) H I_X7_runs_53 G_7_26 cn_X7_runs LY_0 rfl rfl
          replace H := i_gfi (q := 59) H I_X7_runs_56 G_7_167 cn_X7_runs LY_19 rfl rfl
          obtain ⟨hr, hh⟩ := i_ir H I_X7_runs_59
          obtain ⟨P1, P2, P3, P4, P5⟩ := F_12.1
          exact hr.trans (by rw [gRuns_y ⟨c_1, c_6⟩, if_neg w_17_0, if_pos w_17_1, P3])
        · skip
          have W := i_ts1 2 (q := 60) H I_X7_runs_17 (by decide) rfl (by decide)
          clear H
          rcases W with ⟨w_17_2, H⟩ | ⟨w_17_2, H⟩
          · skip
            replace H := i_aln (q := 61) H I_X7_runs_60 rfl rfl
            replace H := i_gfr (q := 64) H I_X7_runs_61 G_7_26 cn_X7_runs LY_0 rfl rfl
            replace H := i_gfi (q := 67) H I_X7_runs_64 G_7_170 cn_X7_runs LY_19 rfl rfl
            obtain ⟨hr, hh⟩ := i_ir H I_X7_runs_67
            obtain ⟨P1, P2, P3, P4, P5⟩ := F_12.1
            exact hr.trans (by rw [gRuns_y ⟨c_1, c_6⟩, if_neg w_17_0, if_neg w_17_1, if_pos w_17_2, P4])
          · skip
            replace H := i_tsd (q := 68) H I_X7_runs_17 (by have q0 := zne w_17_0 (z := 0) (by decide); have q1 := zne w_17_1 (z := 1) (by decide); have q2 := zne w_17_2 (z := 2) (by decide); omega) (by decide)
            replace H := i_aln (q := 69) H I_X7_runs_68 rfl rfl
            replace H := i_gfr (q := 72) H I_X7_runs_69 G_7_26 cn_X7_runs LY_0 rfl rfl
            replace H := i_gfr (q := 75) H I_X7_runs_72 G_7_173 cn_X7_runs LY_19 rfl rfl
            have W := i_cv0 2 (q := 78) H I_X7_runs_75 K_7_176 Zm_11 rfl rfl
            clear H
            obtain ⟨r1, h1, Hc, K1, K2⟩ := W
            obtain ⟨e1, e2⟩ := t_X0_greatest lkk_20 F_12.1.1.1 F_12.1.1.2.1 Hc
            have H := K1 _ _ e1 e2
            clear e1 e2 Hc K1 K2
            obtain ⟨hr, hh⟩ := i_ir H I_X7_runs_78
            obtain ⟨P1, P2, P3, P4, P5⟩ := F_12.1
            exact hr.trans (by rw [gRuns_y ⟨c_1, c_6⟩, if_neg w_17_0, if_neg w_17_1, if_neg w_17_2, LV_mx P1])
    · skip
      replace H := i_icst (x := (-1)) (q := 10) H I_X7_runs_9 (by decide) rfl
      obtain ⟨hr, hh⟩ := i_ir H I_X7_runs_10
      exact hr.trans (by rw [gRuns_n (fun q => q.2 c_6)])
theorem t_X8_runs {d : Nat} {m : zM} {r : Option Value} {h' : zHp} {w : Int32} {c a : Nat} {g : Nat → Int32} (hP : PG m 0 g) (hg : gok g c) (hpl : gpl g) (ha : g 26 = Int32.ofNat a) (ha8 : a ≤ 8) (hc : m 71 2 = Int32.ofNat c) (hM : zMk m) (H : zE none d zm_X8_runs 0 [.ref 71, .int w] [] m r h') : r = some (.int (gRuns c g w)) := by
  replace H := i_iln (q := 1) H I_X8_runs_0 rfl rfl
  replace H := i_i2l (q := 2) H I_X8_runs_1 rfl
  replace H := i_lcst (x := 0) (q := 3) H I_X8_runs_2 (by decide) rfl
  replace H := i_ldc2 (x := 3) (q := 6) H I_X8_runs_3 J_8_155 (by decide) rfl
  replace H := i_in (q := 9) H I_X8_runs_6 K_8_55 rfl
  have W := i_if_ne (t := 14) (q := 12) H I_X8_runs_9 (by decide) rfl
  clear H
  rcases W with ⟨c_9, H⟩ | ⟨c_9, H⟩
  · skip
    replace H := i_aln (q := 15) H I_X8_runs_14 rfl rfl
    replace H := i_icst (x := 0) (q := 16) H I_X8_runs_15 (by decide) rfl
    have W := i_cv1 0 (q := 19) H I_X8_runs_16 K_8_195 Zm_149 rfl rfl
    clear H
    obtain ⟨r1, h1, Hc, K1, K2⟩ := W
    obtain ⟨M_16, e1, e2, F_16⟩ := t_X8_tries hP hg hpl ha ha8 hc hM Hc
    have H := K2 _ e1 e2
    clear e1 e2 Hc K1 K2
    replace H := i_iln (q := 20) H I_X8_runs_19 rfl rfl
    have W := i_if_ne (t := 30) (q := 23) H I_X8_runs_20 (by decide) rfl
    clear H
    rcases W with ⟨c_20, H⟩ | ⟨c_20, H⟩
    · skip
      replace H := i_iln (q := 31) H I_X8_runs_30 rfl rfl
      replace H := i_icst (x := 1) (q := 32) H I_X8_runs_31 (by decide) rfl
      have W := i_ic_ne (t := 42) (q := 35) H I_X8_runs_32 (by decide) rfl
      clear H
      rcases W with ⟨c_32, H⟩ | ⟨c_32, H⟩
      · skip
        replace H := i_iln (q := 43) H I_X8_runs_42 rfl rfl
        replace H := i_icst (x := 2) (q := 44) H I_X8_runs_43 (by decide) rfl
        have W := i_ic_ne (t := 54) (q := 47) H I_X8_runs_44 (by decide) rfl
        clear H
        rcases W with ⟨c_44, H⟩ | ⟨c_44, H⟩
        · skip
          replace H := i_aln (q := 55) H I_X8_runs_54 rfl rfl
          replace H := i_bip (x := 108) (q := 57) H I_X8_runs_55 (by decide) rfl
          have W := i_cv1 2 (q := 60) H I_X8_runs_57 K_8_198 Zm_131 rfl rfl
          clear H
          obtain ⟨r1, h1, Hc, K1, K2⟩ := W
          obtain ⟨e1, e2⟩ := t_X8_mostOn (pg := 108) F_16.1.1 hg.1 ((F_16.2 71 2 (by omega) (by omega) (by omega)).trans hc) Hc
          have H := K1 _ _ e1 e2
          clear e1 e2 Hc K1 K2
          obtain ⟨hr, hh⟩ := i_ir H I_X8_runs_60
          rw [zin_bt (lo := 0) (hi := 3) rfl rfl] at c_9
          obtain ⟨P1, P2, P3, P4, P5⟩ := F_16.1
          exact hr.trans (by rw [gRuns_y (zif1 c_9), if_neg c_20, if_neg c_32, if_neg c_44])
        · skip
          replace H := i_aln (q := 48) H I_X8_runs_47 rfl rfl
          replace H := i_gfi (q := 51) H I_X8_runs_48 G_8_185 cn_X8_runs LY_71 rfl rfl
          replace H := i_goto (q := 60) H I_X8_runs_51 (by decide)
          obtain ⟨hr, hh⟩ := i_ir H I_X8_runs_60
          rw [zin_bt (lo := 0) (hi := 3) rfl rfl] at c_9
          obtain ⟨P1, P2, P3, P4, P5⟩ := F_16.1
          exact hr.trans (by rw [gRuns_y (zif1 c_9), if_neg c_20, if_neg c_32, if_pos c_44, P4])
      · skip
        replace H := i_aln (q := 36) H I_X8_runs_35 rfl rfl
        replace H := i_gfi (q := 39) H I_X8_runs_36 G_8_182 cn_X8_runs LY_71 rfl rfl
        replace H := i_goto (q := 60) H I_X8_runs_39 (by decide)
        obtain ⟨hr, hh⟩ := i_ir H I_X8_runs_60
        rw [zin_bt (lo := 0) (hi := 3) rfl rfl] at c_9
        obtain ⟨P1, P2, P3, P4, P5⟩ := F_16.1
        exact hr.trans (by rw [gRuns_y (zif1 c_9), if_neg c_20, if_pos c_32, P3])
    · skip
      replace H := i_aln (q := 24) H I_X8_runs_23 rfl rfl
      replace H := i_gfi (q := 27) H I_X8_runs_24 G_8_179 cn_X8_runs LY_71 rfl rfl
      replace H := i_goto (q := 60) H I_X8_runs_27 (by decide)
      obtain ⟨hr, hh⟩ := i_ir H I_X8_runs_60
      rw [zin_bt (lo := 0) (hi := 3) rfl rfl] at c_9
      obtain ⟨P1, P2, P3, P4, P5⟩ := F_16.1
      exact hr.trans (by rw [gRuns_y (zif1 c_9), if_pos c_20, P2])
  · skip
    replace H := i_icst (x := (-1)) (q := 13) H I_X8_runs_12 (by decide) rfl
    obtain ⟨hr, hh⟩ := i_ir H I_X8_runs_13
    rw [zin_bt (lo := 0) (hi := 3) rfl rfl] at c_9
    exact hr.trans (by rw [gRuns_n (zif0 c_9)])
theorem t_X7_ahead {d : Nat} {m : zM} {r : Option Value} {h' : zHp} {p c : Nat} {g : Nat → Int32} (hL : LV m 11 c g) (hg : gok g c) (hp : p < c) (H : zE none d zm_X7_ahead 0 [.ref 0, .int (Int32.ofNat p)] [] m r h') : r = some (.int (gcn (gPl c g).1 p)) := by
  have hp5 : p < 5 := by have := hL.2.1; omega
  replace H := i_aln (q := 1) H I_X7_ahead_0 rfl rfl
  replace H := i_gfr (q := 4) H I_X7_ahead_1 G_7_19 cn_X7_ahead LY_0 rfl rfl
  replace H := i_iln (q := 5) H I_X7_ahead_4 rfl rfl
  have W := i_cv1 0 (q := 8) H I_X7_ahead_5 K_7_112 Zm_3 rfl rfl
  clear H
  obtain ⟨r1, h1, Hc, K1, K2⟩ := W
  obtain ⟨e1, e2⟩ := t_X0_has lkk_11 Hc
  have H := K1 _ _ e1 e2
  clear e1 e2 Hc K1 K2
  have W := i_if_ne (t := 13) (q := 11) H I_X7_ahead_8 (by decide) rfl
  clear H
  rcases W with ⟨c_8, H⟩ | ⟨c_8, H⟩
  · skip
    replace H := i_aln (q := 14) H I_X7_ahead_13 rfl rfl
    have W := i_cv0 0 (q := 17) H I_X7_ahead_14 K_7_161 Zm_82 rfl rfl
    clear H
    obtain ⟨r1, h1, Hc, K1, K2⟩ := W
    obtain ⟨M_14, e1, e2, F_14⟩ := t_X7_rehearse hL hg Hc
    have H := K1 _ _ e1 e2
    clear e1 e2 Hc K1 K2
    replace H := i_pop (q := 18) H I_X7_ahead_17 rfl rfl
    replace H := i_aln (q := 19) H I_X7_ahead_18 rfl rfl
    replace H := i_gfr (q := 22) H I_X7_ahead_19 G_7_26 cn_X7_ahead LY_0 rfl rfl
    replace H := i_gfr (q := 25) H I_X7_ahead_22 G_7_173 cn_X7_ahead LY_19 rfl rfl
    replace H := i_gfr (q := 28) H I_X7_ahead_25 G_7_116 cn_X7_ahead LY_20 rfl rfl
    replace H := i_iln (q := 29) H I_X7_ahead_28 rfl rfl
    have W := i_folk (k := 20) lkk_20 (q := 30) H I_X7_ahead_29 rfl
    clear H
    obtain ⟨i_29, bi_29, ei_29, H⟩ := W
    have ei_29 := zofn ei_29 (by omega) (by omega)
    subst ei_29
    have W := i_cv0 0 (q := 33) H I_X7_ahead_30 K_7_134 Zm_20 rfl rfl
    clear H
    obtain ⟨r1, h1, Hc, K1, K2⟩ := W
    obtain ⟨e1, e2⟩ := t_X1_turned (lk_p lkk_20 bi_29) Hc
    have H := K1 _ _ e1 e2
    clear e1 e2 Hc K1 K2
    obtain ⟨hr, hh⟩ := i_ir H I_X7_ahead_33
    exact hr.trans (by rw [← LV_c F_14.1.1 hp]; rfl)
  · skip
    replace H := i_icst (x := (-1)) (q := 12) H I_X7_ahead_11 (by decide) rfl
    obtain ⟨hr, hh⟩ := i_ir H I_X7_ahead_12
    exfalso
    rw [hL.1] at c_8
    exact zif0 c_8 (zis_n hL.2.1 hp)
theorem t_X7_aheadN {d : Nat} {m : zM} {r : Option Value} {h' : zHp} {x : Int32} {c : Nat} (hc : m 11 2 = Int32.ofNat c) (hx : ¬ zIs x c) (H : zE none d zm_X7_ahead 0 [.ref 0, .int x] [] m r h') : r = some (.int (-1)) := by
  replace H := i_aln (q := 1) H I_X7_ahead_0 rfl rfl
  replace H := i_gfr (q := 4) H I_X7_ahead_1 G_7_19 cn_X7_ahead LY_0 rfl rfl
  replace H := i_iln (q := 5) H I_X7_ahead_4 rfl rfl
  have W := i_cv1 0 (q := 8) H I_X7_ahead_5 K_7_112 Zm_3 rfl rfl
  clear H
  obtain ⟨r1, h1, Hc, K1, K2⟩ := W
  obtain ⟨e1, e2⟩ := t_X0_has lkk_11 Hc
  have H := K1 _ _ e1 e2
  clear e1 e2 Hc K1 K2
  have W := i_if_ne (t := 13) (q := 11) H I_X7_ahead_8 (by decide) rfl
  clear H
  rcases W with ⟨c_8, H⟩ | ⟨c_8, H⟩
  · skip
    rw [hc] at c_8
    exact absurd (zif1 c_8) hx
  · skip
    replace H := i_icst (x := (-1)) (q := 12) H I_X7_ahead_11 (by decide) rfl
    obtain ⟨hr, hh⟩ := i_ir H I_X7_ahead_12
    exact hr
theorem t_X8_ahead {d : Nat} {m : zM} {r : Option Value} {h' : zHp} {p : Nat} {c a : Nat} {g : Nat → Int32} (hP : PG m 0 g) (hg : gok g c) (hpl : gpl g) (ha : g 26 = Int32.ofNat a) (ha8 : a ≤ 8) (hc : m 71 2 = Int32.ofNat c) (hM : zMk m) (hp : p < c) (H : zE none d zm_X8_ahead 0 [.ref 71, .int (Int32.ofNat p)] [] m r h') : r = some (.int (gcn (gPl c g).1 p)) := by
  have hc5 := hg.1
  replace H := i_aln (q := 1) H I_X8_ahead_0 rfl rfl
  replace H := i_iln (q := 2) H I_X8_ahead_1 rfl rfl
  have W := i_cv1 0 (q := 5) H I_X8_ahead_2 K_8_151 Zm_127 rfl rfl
  clear H
  obtain ⟨r1, h1, Hc, K1, K2⟩ := W
  obtain ⟨e1, e2⟩ := t_X8_isOne hc hc5 Hc
  have H := K1 _ _ e1 e2
  clear e1 e2 Hc K1 K2
  have W := i_if_ne (t := 10) (q := 8) H I_X8_ahead_5 (by decide) rfl
  clear H
  rcases W with ⟨c_5, H⟩ | ⟨c_5, H⟩
  · skip
    replace H := i_aln (q := 11) H I_X8_ahead_10 rfl rfl
    replace H := i_icst (x := 0) (q := 12) H I_X8_ahead_11 (by decide) rfl
    have W := i_cv1 0 (q := 15) H I_X8_ahead_12 K_8_195 Zm_149 rfl rfl
    clear H
    obtain ⟨r1, h1, Hc, K1, K2⟩ := W
    obtain ⟨M_12, e1, e2, F_12⟩ := t_X8_tries hP hg hpl ha ha8 hc hM Hc
    have H := K2 _ e1 e2
    clear e1 e2 Hc K1 K2
    replace H := i_aln (q := 16) H I_X8_ahead_15 rfl rfl
    replace H := i_bip (x := 108) (q := 18) H I_X8_ahead_16 (by decide) rfl
    replace H := i_iln (q := 19) H I_X8_ahead_18 rfl rfl
    have W := i_cv2 0 (q := 22) H I_X8_ahead_19 K_8_141 Zm_129 rfl rfl
    clear H
    obtain ⟨r1, h1, Hc, K1, K2⟩ := W
    obtain ⟨e1, e2⟩ := t_X8_countOf (pg := 108) F_12.1.1 (by omega) Hc
    have H := K1 _ _ e1 e2
    clear e1 e2 Hc K1 K2
    obtain ⟨hr, hh⟩ := i_ir H I_X8_ahead_22
    exact hr
  · skip
    replace H := i_icst (x := (-1)) (q := 9) H I_X8_ahead_8 (by decide) rfl
    obtain ⟨hr, hh⟩ := i_ir H I_X8_ahead_9
    exfalso
    rw [hc] at c_5
    exact zif0 c_5 (zis_n hg.1 hp)
theorem t_X8_aheadN {d : Nat} {m : zM} {r : Option Value} {h' : zHp} {x : Int32} {c : Nat} (hc : m 71 2 = Int32.ofNat c) (hc5 : c ≤ 5) (hx : ¬ zIs x c) (H : zE none d zm_X8_ahead 0 [.ref 71, .int x] [] m r h') : r = some (.int (-1)) := by
  replace H := i_aln (q := 1) H I_X8_ahead_0 rfl rfl
  replace H := i_iln (q := 2) H I_X8_ahead_1 rfl rfl
  have W := i_cv1 0 (q := 5) H I_X8_ahead_2 K_8_151 Zm_127 rfl rfl
  clear H
  obtain ⟨r1, h1, Hc, K1, K2⟩ := W
  obtain ⟨e1, e2⟩ := t_X8_isOne hc hc5 Hc
  have H := K1 _ _ e1 e2
  clear e1 e2 Hc K1 K2
  have W := i_if_ne (t := 10) (q := 8) H I_X8_ahead_5 (by decide) rfl
  clear H
  rcases W with ⟨c_5, H⟩ | ⟨c_5, H⟩
  · skip
    rw [hc] at c_5
    exact absurd (zif1 c_5) hx
  · skip
    replace H := i_icst (x := (-1)) (q := 9) H I_X8_ahead_8 (by decide) rfl
    obtain ⟨hr, hh⟩ := i_ir H I_X8_ahead_9
    exact hr
def gRo (c : Nat) : Nat → Nat → (Nat → Int32) → Int32
  | 0, _, _ => -4
  | j + 1, i, g => if (gPl c g).2.2.2.1 = -4 then gRo c j (i + 1) (gPl c g).1 else Int32.ofNat i
theorem ro_7 {c : Nat} : ∀ (j i : Nat) (g : Nat → Int32) (d : Nat) (r : Option Value) (h' : zHp) (m : zM), i + j = 61 → LV m 20 c g → gok g c → zE none d zm_X7_round 16 [.ref 0, .int (Int32.ofNat i)] [] m r h' → r = some (.int (gRo c j i g)) := by
  intro j
  induction j with
  | zero =>
    intro i g d r h' m hj hL hg H
    replace H := i_iln (q := 17) H I_X7_round_16 rfl rfl
    replace H := i_bip (x := 60) (q := 19) H I_X7_round_17 (by decide) rfl
    have W := i_ic_gt (t := 52) (q := 22) H I_X7_round_19 (by decide) rfl
    clear H
    rcases W with ⟨c_19, H⟩ | ⟨c_19, H⟩
    · skip
      replace H := i_bip (x := (-4)) (q := 54) H I_X7_round_52 (by decide) rfl
      obtain ⟨hr, hh⟩ := i_ir H I_X7_round_54
      exact hr
    · exfalso
      exact c_19 ((zofn_lt (i := 60) (by decide) (by omega)).mpr (by omega))
  | succ j ih =>
    intro i g d r h' m hj hL hg H
    replace H := i_iln (q := 17) H I_X7_round_16 rfl rfl
    replace H := i_bip (x := 60) (q := 19) H I_X7_round_17 (by decide) rfl
    have W := i_ic_gt (t := 52) (q := 22) H I_X7_round_19 (by decide) rfl
    clear H
    rcases W with ⟨c_19, H⟩ | ⟨c_19, H⟩
    · exfalso
      exact absurd ((zofn_lt (i := 60) (by decide) (by omega)).mp c_19) (by omega)
    · skip
      replace H := i_aln (q := 23) H I_X7_round_22 rfl rfl
      replace H := i_gfr (q := 26) H I_X7_round_23 G_7_26 cn_X7_round LY_0 rfl rfl
      replace H := i_bip (x := 31) (q := 28) H I_X7_round_26 (by decide) rfl
      have W := i_cv1 2 (q := 31) H I_X7_round_28 K_7_179 Zm_44 rfl rfl
      clear H
      obtain ⟨r1, h1, Hc, K1, K2⟩ := W
      obtain ⟨M_28, e1, e2, F_28⟩ := t_X3_play hL hg Hc
      have H := K1 _ _ e1 e2
      clear e1 e2 Hc K1 K2
      replace H := i_pop (q := 32) H I_X7_round_31 rfl rfl
      replace H := i_aln (q := 33) H I_X7_round_32 rfl rfl
      replace H := i_gfr (q := 36) H I_X7_round_33 G_7_26 cn_X7_round LY_0 rfl rfl
      replace H := i_gfi (q := 39) H I_X7_round_36 G_7_170 cn_X7_round LY_19 rfl rfl
      replace H := i_bip (x := (-4)) (q := 41) H I_X7_round_39 (by decide) rfl
      have W := i_ic_eq (t := 46) (q := 44) H I_X7_round_41 (by decide) rfl
      clear H
      rcases W with ⟨c_41, H⟩ | ⟨c_41, H⟩
      · skip
        replace H := i_inc (q := 49) H I_X7_round_46 rfl rfl rfl
        replace H := i_goto (q := 16) H I_X7_round_49 (by decide)
        have P : cP M_28 c (gPl c g) := F_28.1
        obtain ⟨P1, P2, P3, P4, P5⟩ := P
        rw [P4] at c_41
        replace H : zE none d zm_X7_round 16 [.ref 0, .int (Int32.ofNat (i + 1))] [] M_28 r h' := by
          rw [← zofn_s]
          exact H
        rw [gRo, if_pos c_41]
        exact ih (i + 1) (gPl c g).1 d r h' M_28 (by omega) P1 (gPl_ok hg).1 H
      · skip
        replace H := i_iln (q := 45) H I_X7_round_44 rfl rfl
        obtain ⟨hr, hh⟩ := i_ir H I_X7_round_45
        have P : cP M_28 c (gPl c g) := F_28.1
        obtain ⟨P1, P2, P3, P4, P5⟩ := P
        rw [P4] at c_41
        exact hr.trans (by rw [gRo, if_neg c_41])
theorem t_X7_round {d : Nat} {m : zM} {r : Option Value} {h' : zHp} {c : Nat} {g : Nat → Int32} (hL : LV m 11 c g) (hg : gok g c) (H : zE none d zm_X7_round 0 [.ref 0, .null] [] m r h') : r = some (.int (gRo c 60 1 g)) := by
  have hL0 := hL
  obtain ⟨l1, l2, l3, l4, l5, a, l6, l7, l8, l9⟩ := hL
  replace H := i_aln (q := 1) H I_X7_round_0 rfl rfl
  replace H := i_gfr (q := 4) H I_X7_round_1 G_7_26 cn_X7_round LY_0 rfl rfl
  replace H := i_gfr (q := 7) H I_X7_round_4 G_7_173 cn_X7_round LY_19 rfl rfl
  replace H := i_aln (q := 8) H I_X7_round_7 rfl rfl
  replace H := i_gfr (q := 11) H I_X7_round_8 G_7_19 cn_X7_round LY_0 rfl rfl
  have W := i_cv1 1 (q := 14) H I_X7_round_11 K_7_77 Zm_2 rfl rfl
  clear H
  obtain ⟨r1, h1, Hc, K1, K2⟩ := W
  obtain ⟨M_11, e1, e2, F_11⟩ := t_become lkk_20 lkk_11 (by omega) l1 l2 l8 l6 Hc
  have H := K2 _ e1 e2
  clear e1 e2 Hc K1 K2
  replace H := i_icst (x := 1) (q := 15) H I_X7_round_14 (by decide) rfl
  replace H := i_isn (q := 16) H I_X7_round_15 rfl rfl
  exact ro_7 60 1 g d r h' M_11 rfl (LV_b hL0 l8 l6 F_11) hg H
theorem ro_8 {c a : Nat} (ha8 : a ≤ 8) : ∀ (j i : Nat) (g : Nat → Int32) (d : Nat) (r : Option Value) (h' : zHp) (m : zM), i + j = 61 → PG m 108 g → gok g c → gpl g → g 26 = Int32.ofNat a → m 71 2 = Int32.ofNat c → zMk m → zE none d zm_X8_round 9 [.ref 71, .int (Int32.ofNat i)] [] m r h' → r = some (.int (gRo c j i g)) := by
  intro j
  induction j with
  | zero =>
    intro i g d r h' m hj hP hg hpl ha hc hM H
    replace H := i_iln (q := 10) H I_X8_round_9 rfl rfl
    replace H := i_bip (x := 60) (q := 12) H I_X8_round_10 (by decide) rfl
    have W := i_ic_gt (t := 37) (q := 15) H I_X8_round_12 (by decide) rfl
    clear H
    rcases W with ⟨c_12, H⟩ | ⟨c_12, H⟩
    · skip
      replace H := i_bip (x := (-4)) (q := 39) H I_X8_round_37 (by decide) rfl
      obtain ⟨hr, hh⟩ := i_ir H I_X8_round_39
      exact hr
    · exfalso
      exact c_12 ((zofn_lt (i := 60) (by decide) (by omega)).mpr (by omega))
  | succ j ih =>
    intro i g d r h' m hj hP hg hpl ha hc hM H
    replace H := i_iln (q := 10) H I_X8_round_9 rfl rfl
    replace H := i_bip (x := 60) (q := 12) H I_X8_round_10 (by decide) rfl
    have W := i_ic_gt (t := 37) (q := 15) H I_X8_round_12 (by decide) rfl
    clear H
    rcases W with ⟨c_12, H⟩ | ⟨c_12, H⟩
    · exfalso
      exact absurd ((zofn_lt (i := 60) (by decide) (by omega)).mp c_12) (by omega)
    · skip
      replace H := i_aln (q := 16) H I_X8_round_15 rfl rfl
      replace H := i_icst (x := 0) (q := 17) H I_X8_round_16 (by decide) rfl
      have W := i_cv1 2 (q := 20) H I_X8_round_17 K_8_192 Zm_148 rfl rfl
      clear H
      obtain ⟨r1, h1, Hc, K1, K2⟩ := W
      obtain ⟨M_17, e1, e2, F_17⟩ := t_X8_planGoes (g := g) hP hg ha ha8 hpl hc hM Hc
      have H := K2 _ e1 e2
      clear e1 e2 Hc K1 K2
      replace H := i_aln (q := 21) H I_X8_round_20 rfl rfl
      replace H := i_gfi (q := 24) H I_X8_round_21 G_8_185 cn_X8_round LY_71 rfl rfl
      replace H := i_bip (x := (-4)) (q := 26) H I_X8_round_24 (by decide) rfl
      have W := i_ic_eq (t := 31) (q := 29) H I_X8_round_26 (by decide) rfl
      clear H
      rcases W with ⟨c_26, H⟩ | ⟨c_26, H⟩
      · skip
        replace H := i_inc (q := 34) H I_X8_round_31 rfl rfl rfl
        replace H := i_goto (q := 9) H I_X8_round_34 (by decide)
        have P : rP M_17 8 (gPl c g) := by
          rw [← gPl_m hg hpl ha ha8]
          exact F_17.1
        obtain ⟨P1, P2, P3, P4, P5⟩ := P
        rw [P4] at c_26
        replace H : zE none d zm_X8_round 9 [.ref 71, .int (Int32.ofNat (i + 1))] [] M_17 r h' := by
          rw [← zofn_s]
          exact H
        rw [gRo, if_pos c_26]
        obtain ⟨y1, y2⟩ := gPl_ok hg
        exact ih (i + 1) (gPl c g).1 d r h' M_17 (by omega) P1 y1 (fun j hj => by rw [y2 (18 + j) (by omega)]; exact hpl j hj) ((y2 26 (by omega)).trans ha) ((F_17.2 71 2 (by omega) (by omega) (by omega)).trans hc) (zMk_f hM (fun b => F_17.2 73 b (by omega) (by omega) (by omega))) H
      · skip
        replace H := i_iln (q := 30) H I_X8_round_29 rfl rfl
        obtain ⟨hr, hh⟩ := i_ir H I_X8_round_30
        have P : rP M_17 8 (gPl c g) := by
          rw [← gPl_m hg hpl ha ha8]
          exact F_17.1
        obtain ⟨P1, P2, P3, P4, P5⟩ := P
        rw [P4] at c_26
        exact hr.trans (by rw [gRo, if_neg c_26])
theorem t_X8_round {d : Nat} {m : zM} {r : Option Value} {h' : zHp} {c a : Nat} {g : Nat → Int32} (hP : PG m 0 g) (hg : gok g c) (hpl : gpl g) (ha : g 26 = Int32.ofNat a) (ha8 : a ≤ 8) (hc : m 71 2 = Int32.ofNat c) (hM : zMk m) (H : zE none d zm_X8_round 0 [.ref 71, .null] [] m r h') : r = some (.int (gRo c 60 1 g)) := by
  replace H := i_aln (q := 1) H I_X8_round_0 rfl rfl
  replace H := i_icst (x := 0) (q := 2) H I_X8_round_1 (by decide) rfl
  replace H := i_bip (x := 108) (q := 4) H I_X8_round_2 (by decide) rfl
  have W := i_cv2 1 (q := 7) H I_X8_round_4 K_8_188 Zm_147 rfl rfl
  clear H
  obtain ⟨r1, h1, Hc, K1, K2⟩ := W
  obtain ⟨M_4, e1, e2, F_4⟩ := t_X8_copies (f := 0) (t := 108) rfl rfl (by omega) (by omega) (by omega) Hc
  have H := K2 _ e1 e2
  clear e1 e2 Hc K1 K2
  replace H := i_icst (x := 1) (q := 8) H I_X8_round_7 (by decide) rfl
  replace H := i_isn (q := 9) H I_X8_round_8 rfl rfl
  exact ro_8 ha8 60 1 g d r h' M_4 rfl (PG_cp hP F_4) hg hpl ha ((F_4.2 71 2 (by omega)).trans hc) (zMk_f hM (fun b => F_4.2 73 b (by omega))) H
theorem gpl_0 {m : zM} (ht : zTy m) : gpl (pgf m 0) := fun j hj => by
  match j, hj with
  | 0, _ => exact zTy_r (k := 72) (i := 18) ht rfl ⟨_, LY_72, rfl⟩ rfl
  | 1, _ => exact zTy_r (k := 72) (i := 19) ht rfl ⟨_, LY_72, rfl⟩ rfl
  | 2, _ => exact zTy_r (k := 72) (i := 20) ht rfl ⟨_, LY_72, rfl⟩ rfl
  | 3, _ => exact zTy_r (k := 72) (i := 21) ht rfl ⟨_, LY_72, rfl⟩ rfl
  | 4, _ => exact zTy_r (k := 72) (i := 22) ht rfl ⟨_, LY_72, rfl⟩ rfl
  | 5, _ => exact zTy_r (k := 72) (i := 23) ht rfl ⟨_, LY_72, rfl⟩ rfl
  | 6, _ => exact zTy_r (k := 72) (i := 24) ht rfl ⟨_, LY_72, rfl⟩ rfl
  | 7, _ => exact zTy_r (k := 72) (i := 25) ht rfl ⟨_, LY_72, rfl⟩ rfl
theorem pd_runs {m : zM} {r : Option Value} {h' : zHp} {x0 : Int32} (ht : zTy m) (hR : RF m) (H : zEv none 19 zm_X7_runs (0, lv_args 0 [.ref 0, .int x0], [], zhp m) r h') : ∃ m1 v, r = some (.int v) ∧ h' = zhp m1 ∧ zTy m1 ∧ ∀ r2 h2, zEv none 19 zm_X8_runs (0, lv_args 0 [.ref 71, .int x0], [], zhp m1) r2 h2 → ∃ m2 v2, r2 = some (.int v2) ∧ h2 = zhp m2 ∧ zTy m2 ∧ RF m2 ∧ v = v2 := by
  have hR0 := hR
  obtain ⟨⟨_, hM, _, _, c, c1, ⟨hL, hb⟩, _⟩, _⟩ := hR
  have hg := gok_11 ht hL
  have hpl := gpl_0 ht
  obtain ⟨a, a6, a7, _⟩ := hL.2.2.2.2.2
  obtain ⟨m1, v, a1, a2, a3, a4⟩ := e_X7_runs ht H
  refine ⟨m1, v, a1, a2, a3, fun r2 h2 H2 => ?_⟩
  obtain ⟨m2, v2, b1, b2, b3, b4⟩ := e_X8_runs a3 H2
  refine ⟨m2, v2, b1, b2, b3, RF_f (RF_f hR0 a4 (by decide +kernel)) b4 (by decide +kernel), ?_⟩
  have hP1 : PG m1 0 (pgf m 0) := ⟨by omega, fun j hj => a4 72 (0 + j) (zpl_r LY_72 (by omega)) (ymd_c (by decide +kernel) _)⟩
  have hM1 : zMk m1 := ⟨(a4 73 0 ⟨_, LY_73, rfl⟩ (by decide +kernel)).trans hM.1, (a4 73 1 ⟨_, LY_73, rfl⟩ (by decide +kernel)).trans hM.2.1, (a4 73 2 ⟨_, LY_73, rfl⟩ (by decide +kernel)).trans hM.2.2.1, (a4 73 3 ⟨_, LY_73, rfl⟩ (by decide +kernel)).trans hM.2.2.2⟩
  have hc1 : m1 71 2 = Int32.ofNat c := (a4 71 2 ⟨_, LY_71, rfl⟩ (by decide +kernel)).trans c1
  have k1 := t_X7_runs hL hg (zE_of 0 rfl H)
  have k2 := t_X8_runs hP1 hg hpl a7 a6 hc1 hM1 (zE_of 0 rfl H2)
  rw [a1] at k1
  rw [b1] at k2
  cases k1
  cases k2
  rfl
theorem pd_round {m : zM} {r : Option Value} {h' : zHp} (ht : zTy m) (hR : RF m) (H : zEv none 19 zm_X7_round (0, lv_args 0 [.ref 0], [], zhp m) r h') : ∃ m1 v, r = some (.int v) ∧ h' = zhp m1 ∧ zTy m1 ∧ ∀ r2 h2, zEv none 19 zm_X8_round (0, lv_args 0 [.ref 71], [], zhp m1) r2 h2 → ∃ m2 v2, r2 = some (.int v2) ∧ h2 = zhp m2 ∧ zTy m2 ∧ RF m2 ∧ v = v2 := by
  have hR0 := hR
  obtain ⟨⟨_, hM, _, _, c, c1, ⟨hL, hb⟩, _⟩, _⟩ := hR
  have hg := gok_11 ht hL
  have hpl := gpl_0 ht
  obtain ⟨a, a6, a7, _⟩ := hL.2.2.2.2.2
  obtain ⟨m1, v, a1, a2, a3, a4⟩ := e_X7_round ht H
  refine ⟨m1, v, a1, a2, a3, fun r2 h2 H2 => ?_⟩
  obtain ⟨m2, v2, b1, b2, b3, b4⟩ := e_X8_round a3 H2
  refine ⟨m2, v2, b1, b2, b3, RF_f (RF_f hR0 a4 (by decide +kernel)) b4 (by decide +kernel), ?_⟩
  have hP1 : PG m1 0 (pgf m 0) := ⟨by omega, fun j hj => a4 72 (0 + j) (zpl_r LY_72 (by omega)) (ymd_c (by decide +kernel) _)⟩
  have hM1 : zMk m1 := ⟨(a4 73 0 ⟨_, LY_73, rfl⟩ (by decide +kernel)).trans hM.1, (a4 73 1 ⟨_, LY_73, rfl⟩ (by decide +kernel)).trans hM.2.1, (a4 73 2 ⟨_, LY_73, rfl⟩ (by decide +kernel)).trans hM.2.2.1, (a4 73 3 ⟨_, LY_73, rfl⟩ (by decide +kernel)).trans hM.2.2.2⟩
  have hc1 : m1 71 2 = Int32.ofNat c := (a4 71 2 ⟨_, LY_71, rfl⟩ (by decide +kernel)).trans c1
  have k1 := t_X7_round hL hg (zE_of 1 rfl H)
  have k2 := t_X8_round hP1 hg hpl a7 a6 hc1 hM1 (zE_of 1 rfl H2)
  rw [a1] at k1
  rw [b1] at k2
  cases k1
  cases k2
  rfl
theorem pd_ahead {m : zM} {r : Option Value} {h' : zHp} {x0 : Int32} (ht : zTy m) (hR : RF m) (H : zEv none 19 zm_X7_ahead (0, lv_args 0 [.ref 0, .int x0], [], zhp m) r h') : ∃ m1 v, r = some (.int v) ∧ h' = zhp m1 ∧ zTy m1 ∧ ∀ r2 h2, zEv none 19 zm_X8_ahead (0, lv_args 0 [.ref 71, .int x0], [], zhp m1) r2 h2 → ∃ m2 v2, r2 = some (.int v2) ∧ h2 = zhp m2 ∧ zTy m2 ∧ RF m2 ∧ v = v2 := by
  have hR0 := hR
  obtain ⟨⟨_, hM, _, _, c, c1, ⟨hL, hb⟩, _⟩, _⟩ := hR
  have hg := gok_11 ht hL
  have hpl := gpl_0 ht
  obtain ⟨a, a6, a7, _⟩ := hL.2.2.2.2.2
  obtain ⟨m1, v, a1, a2, a3, a4⟩ := e_X7_ahead ht H
  refine ⟨m1, v, a1, a2, a3, fun r2 h2 H2 => ?_⟩
  obtain ⟨m2, v2, b1, b2, b3, b4⟩ := e_X8_ahead a3 H2
  refine ⟨m2, v2, b1, b2, b3, RF_f (RF_f hR0 a4 (by decide +kernel)) b4 (by decide +kernel), ?_⟩
  have hP1 : PG m1 0 (pgf m 0) := ⟨by omega, fun j hj => a4 72 (0 + j) (zpl_r LY_72 (by omega)) (ymd_c (by decide +kernel) _)⟩
  have hM1 : zMk m1 := ⟨(a4 73 0 ⟨_, LY_73, rfl⟩ (by decide +kernel)).trans hM.1, (a4 73 1 ⟨_, LY_73, rfl⟩ (by decide +kernel)).trans hM.2.1, (a4 73 2 ⟨_, LY_73, rfl⟩ (by decide +kernel)).trans hM.2.2.1, (a4 73 3 ⟨_, LY_73, rfl⟩ (by decide +kernel)).trans hM.2.2.2⟩
  have hc1 : m1 71 2 = Int32.ofNat c := (a4 71 2 ⟨_, LY_71, rfl⟩ (by decide +kernel)).trans c1
  by_cases hx : zIs x0 c
  · obtain ⟨p, p1, rfl⟩ := zlt_n rfl (by have := hL.2.1; omega) hx
    have k1 := t_X7_ahead hL hg p1 (zE_of 0 rfl H)
    have k2 := t_X8_ahead hP1 hg hpl a7 a6 hc1 hM1 p1 (zE_of 0 rfl H2)
    rw [a1] at k1
    rw [b1] at k2
    cases k1
    cases k2
    rfl
  · have k1 := t_X7_aheadN hL.1 hx (zE_of 0 rfl H)
    have k2 := t_X8_aheadN hc1 hL.2.1 hx (zE_of 0 rfl H2)
    rw [a1] at k1
    rw [b1] at k2
    cases k1
    cases k2
    rfl
end
section
/-! loose, hands -/
theorem It_X7_hands : zm_X7_hands.2.2.2.2.2 = zt_X7_hands := by
  unfold zm_X7_hands
  rfl
theorem It_X7_loose : zm_X7_loose.2.2.2.2.2 = zt_X7_loose := by
  unfold zm_X7_loose
  rfl
theorem It_X7_rehearseSlack : zm_X7_rehearseSlack.2.2.2.2.2 = zt_X7_rehearseSlack := by
  unfold zm_X7_rehearseSlack
  rfl
theorem It_X8_hands : zm_X8_hands.2.2.2.2.2 = zt_X8_hands := by
  unfold zm_X8_hands
  rfl
theorem It_X8_loose : zm_X8_loose.2.2.2.2.2 = zt_X8_loose := by
  unfold zm_X8_loose
  rfl
theorem I_X7_hands_0 : zin zm_X7_hands.2.2.2.2.2 0 = some (.iload_n 1, 1) := by rw [It_X7_hands]; rfl
theorem I_X7_hands_1 : zin zm_X7_hands.2.2.2.2.2 1 = some (.ifCond .lt 8, 3) := by rw [It_X7_hands]; rfl
theorem I_X7_hands_4 : zin zm_X7_hands.2.2.2.2.2 4 = some (.iload_n 1, 1) := by rw [It_X7_hands]; rfl
theorem I_X7_hands_5 : zin zm_X7_hands.2.2.2.2.2 5 = some (.iconst 1, 1) := by rw [It_X7_hands]; rfl
theorem I_X7_hands_6 : zin zm_X7_hands.2.2.2.2.2 6 = some (.if_icmp .le 5, 3) := by rw [It_X7_hands]; rfl
theorem I_X7_hands_9 : zin zm_X7_hands.2.2.2.2.2 9 = some (.iconst (-1), 1) := by rw [It_X7_hands]; rfl
theorem I_X7_hands_10 : zin zm_X7_hands.2.2.2.2.2 10 = some (.ireturn, 1) := by rw [It_X7_hands]; rfl
theorem I_X7_hands_11 : zin zm_X7_hands.2.2.2.2.2 11 = some (.iconst 0, 1) := by rw [It_X7_hands]; rfl
theorem I_X7_hands_12 : zin zm_X7_hands.2.2.2.2.2 12 = some (.istore_n 2, 1) := by rw [It_X7_hands]; rfl
theorem I_X7_hands_13 : zin zm_X7_hands.2.2.2.2.2 13 = some (.iconst (-1), 1) := by rw [It_X7_hands]; rfl
theorem I_X7_hands_14 : zin zm_X7_hands.2.2.2.2.2 14 = some (.istore_n 3, 1) := by rw [It_X7_hands]; rfl
theorem I_X7_hands_15 : zin zm_X7_hands.2.2.2.2.2 15 = some (.iconst 0, 1) := by rw [It_X7_hands]; rfl
theorem I_X7_hands_16 : zin zm_X7_hands.2.2.2.2.2 16 = some (.istore 4, 2) := by rw [It_X7_hands]; rfl
theorem I_X7_hands_18 : zin zm_X7_hands.2.2.2.2.2 18 = some (.iload 4, 2) := by rw [It_X7_hands]; rfl
theorem I_X7_hands_20 : zin zm_X7_hands.2.2.2.2.2 20 = some (.iconst 1, 1) := by rw [It_X7_hands]; rfl
theorem I_X7_hands_21 : zin zm_X7_hands.2.2.2.2.2 21 = some (.aload_n 0, 1) := by rw [It_X7_hands]; rfl
theorem I_X7_hands_22 : zin zm_X7_hands.2.2.2.2.2 22 = some (.getfield 19, 3) := by rw [It_X7_hands]; rfl
theorem I_X7_hands_25 : zin zm_X7_hands.2.2.2.2.2 25 = some (.getfield 90, 3) := by rw [It_X7_hands]; rfl
theorem I_X7_hands_28 : zin zm_X7_hands.2.2.2.2.2 28 = some (.ishl, 1) := by rw [It_X7_hands]; rfl
theorem I_X7_hands_29 : zin zm_X7_hands.2.2.2.2.2 29 = some (.if_icmp .ge 58, 3) := by rw [It_X7_hands]; rfl
theorem I_X7_hands_32 : zin zm_X7_hands.2.2.2.2.2 32 = some (.aload_n 0, 1) := by rw [It_X7_hands]; rfl
theorem I_X7_hands_33 : zin zm_X7_hands.2.2.2.2.2 33 = some (.getfield 26, 3) := by rw [It_X7_hands]; rfl
theorem I_X7_hands_36 : zin zm_X7_hands.2.2.2.2.2 36 = some (.getfield 173, 3) := by rw [It_X7_hands]; rfl
theorem I_X7_hands_39 : zin zm_X7_hands.2.2.2.2.2 39 = some (.aload_n 0, 1) := by rw [It_X7_hands]; rfl
theorem I_X7_hands_40 : zin zm_X7_hands.2.2.2.2.2 40 = some (.getfield 19, 3) := by rw [It_X7_hands]; rfl
theorem I_X7_hands_43 : zin zm_X7_hands.2.2.2.2.2 43 = some (.invokevirtual 77, 3) := by rw [It_X7_hands]; rfl
theorem I_X7_hands_46 : zin zm_X7_hands.2.2.2.2.2 46 = some (.aload_n 0, 1) := by rw [It_X7_hands]; rfl
theorem I_X7_hands_47 : zin zm_X7_hands.2.2.2.2.2 47 = some (.getfield 26, 3) := by rw [It_X7_hands]; rfl
theorem I_X7_hands_50 : zin zm_X7_hands.2.2.2.2.2 50 = some (.getfield 173, 3) := by rw [It_X7_hands]; rfl
theorem I_X7_hands_53 : zin zm_X7_hands.2.2.2.2.2 53 = some (.iload 4, 2) := by rw [It_X7_hands]; rfl
theorem I_X7_hands_55 : zin zm_X7_hands.2.2.2.2.2 55 = some (.invokevirtual 200, 3) := by rw [It_X7_hands]; rfl
theorem I_X7_hands_58 : zin zm_X7_hands.2.2.2.2.2 58 = some (.aload_n 0, 1) := by rw [It_X7_hands]; rfl
theorem I_X7_hands_59 : zin zm_X7_hands.2.2.2.2.2 59 = some (.getfield 26, 3) := by rw [It_X7_hands]; rfl
theorem I_X7_hands_62 : zin zm_X7_hands.2.2.2.2.2 62 = some (.bipush 31, 2) := by rw [It_X7_hands]; rfl
theorem I_X7_hands_64 : zin zm_X7_hands.2.2.2.2.2 64 = some (.invokevirtual 179, 3) := by rw [It_X7_hands]; rfl
theorem I_X7_hands_67 : zin zm_X7_hands.2.2.2.2.2 67 = some (.istore 5, 2) := by rw [It_X7_hands]; rfl
theorem I_X7_hands_69 : zin zm_X7_hands.2.2.2.2.2 69 = some (.iload 5, 2) := by rw [It_X7_hands]; rfl
theorem I_X7_hands_71 : zin zm_X7_hands.2.2.2.2.2 71 = some (.iload_n 3, 1) := by rw [It_X7_hands]; rfl
theorem I_X7_hands_72 : zin zm_X7_hands.2.2.2.2.2 72 = some (.if_icmp .le 9, 3) := by rw [It_X7_hands]; rfl
theorem I_X7_hands_75 : zin zm_X7_hands.2.2.2.2.2 75 = some (.iload 5, 2) := by rw [It_X7_hands]; rfl
theorem I_X7_hands_77 : zin zm_X7_hands.2.2.2.2.2 77 = some (.istore_n 3, 1) := by rw [It_X7_hands]; rfl
theorem I_X7_hands_78 : zin zm_X7_hands.2.2.2.2.2 78 = some (.iload 4, 2) := by rw [It_X7_hands]; rfl
theorem I_X7_hands_80 : zin zm_X7_hands.2.2.2.2.2 80 = some (.istore_n 2, 1) := by rw [It_X7_hands]; rfl
theorem I_X7_hands_81 : zin zm_X7_hands.2.2.2.2.2 81 = some (.iinc 4 1, 3) := by rw [It_X7_hands]; rfl
theorem I_X7_hands_84 : zin zm_X7_hands.2.2.2.2.2 84 = some (.goto (-66), 3) := by rw [It_X7_hands]; rfl
theorem I_X7_hands_87 : zin zm_X7_hands.2.2.2.2.2 87 = some (.iload_n 1, 1) := by rw [It_X7_hands]; rfl
theorem I_X7_hands_88 : zin zm_X7_hands.2.2.2.2.2 88 = some (.ifCond .ne 7, 3) := by rw [It_X7_hands]; rfl
theorem I_X7_hands_91 : zin zm_X7_hands.2.2.2.2.2 91 = some (.iload_n 2, 1) := by rw [It_X7_hands]; rfl
theorem I_X7_hands_92 : zin zm_X7_hands.2.2.2.2.2 92 = some (.goto 4, 3) := by rw [It_X7_hands]; rfl
theorem I_X7_hands_95 : zin zm_X7_hands.2.2.2.2.2 95 = some (.iload_n 3, 1) := by rw [It_X7_hands]; rfl
theorem I_X7_hands_96 : zin zm_X7_hands.2.2.2.2.2 96 = some (.ireturn, 1) := by rw [It_X7_hands]; rfl
theorem I_X7_loose_0 : zin zm_X7_loose.2.2.2.2.2 0 = some (.iconst 0, 1) := by rw [It_X7_loose]; rfl
theorem I_X7_loose_1 : zin zm_X7_loose.2.2.2.2.2 1 = some (.istore_n 1, 1) := by rw [It_X7_loose]; rfl
theorem I_X7_loose_2 : zin zm_X7_loose.2.2.2.2.2 2 = some (.iload_n 1, 1) := by rw [It_X7_loose]; rfl
theorem I_X7_loose_3 : zin zm_X7_loose.2.2.2.2.2 3 = some (.bipush 9, 2) := by rw [It_X7_loose]; rfl
theorem I_X7_loose_5 : zin zm_X7_loose.2.2.2.2.2 5 = some (.if_icmp .gt 28, 3) := by rw [It_X7_loose]; rfl
theorem I_X7_loose_8 : zin zm_X7_loose.2.2.2.2.2 8 = some (.aload_n 0, 1) := by rw [It_X7_loose]; rfl
theorem I_X7_loose_9 : zin zm_X7_loose.2.2.2.2.2 9 = some (.iload_n 1, 1) := by rw [It_X7_loose]; rfl
theorem I_X7_loose_10 : zin zm_X7_loose.2.2.2.2.2 10 = some (.invokevirtual 214, 3) := by rw [It_X7_loose]; rfl
theorem I_X7_loose_13 : zin zm_X7_loose.2.2.2.2.2 13 = some (.aload_n 0, 1) := by rw [It_X7_loose]; rfl
theorem I_X7_loose_14 : zin zm_X7_loose.2.2.2.2.2 14 = some (.getfield 26, 3) := by rw [It_X7_loose]; rfl
theorem I_X7_loose_17 : zin zm_X7_loose.2.2.2.2.2 17 = some (.getfield 170, 3) := by rw [It_X7_loose]; rfl
theorem I_X7_loose_20 : zin zm_X7_loose.2.2.2.2.2 20 = some (.bipush (-4), 2) := by rw [It_X7_loose]; rfl
theorem I_X7_loose_22 : zin zm_X7_loose.2.2.2.2.2 22 = some (.if_icmp .ne 5, 3) := by rw [It_X7_loose]; rfl
theorem I_X7_loose_25 : zin zm_X7_loose.2.2.2.2.2 25 = some (.iload_n 1, 1) := by rw [It_X7_loose]; rfl
theorem I_X7_loose_26 : zin zm_X7_loose.2.2.2.2.2 26 = some (.ireturn, 1) := by rw [It_X7_loose]; rfl
theorem I_X7_loose_27 : zin zm_X7_loose.2.2.2.2.2 27 = some (.iinc 1 1, 3) := by rw [It_X7_loose]; rfl
theorem I_X7_loose_30 : zin zm_X7_loose.2.2.2.2.2 30 = some (.goto (-28), 3) := by rw [It_X7_loose]; rfl
theorem I_X7_loose_33 : zin zm_X7_loose.2.2.2.2.2 33 = some (.bipush (-4), 2) := by rw [It_X7_loose]; rfl
theorem I_X7_loose_35 : zin zm_X7_loose.2.2.2.2.2 35 = some (.ireturn, 1) := by rw [It_X7_loose]; rfl
theorem I_X7_rehearseSlack_0 : zin zm_X7_rehearseSlack.2.2.2.2.2 0 = some (.aload_n 0, 1) := by rw [It_X7_rehearseSlack]; rfl
theorem I_X7_rehearseSlack_1 : zin zm_X7_rehearseSlack.2.2.2.2.2 1 = some (.getfield 26, 3) := by rw [It_X7_rehearseSlack]; rfl
theorem I_X7_rehearseSlack_4 : zin zm_X7_rehearseSlack.2.2.2.2.2 4 = some (.getfield 173, 3) := by rw [It_X7_rehearseSlack]; rfl
theorem I_X7_rehearseSlack_7 : zin zm_X7_rehearseSlack.2.2.2.2.2 7 = some (.aload_n 0, 1) := by rw [It_X7_rehearseSlack]; rfl
theorem I_X7_rehearseSlack_8 : zin zm_X7_rehearseSlack.2.2.2.2.2 8 = some (.getfield 19, 3) := by rw [It_X7_rehearseSlack]; rfl
theorem I_X7_rehearseSlack_11 : zin zm_X7_rehearseSlack.2.2.2.2.2 11 = some (.invokevirtual 77, 3) := by rw [It_X7_rehearseSlack]; rfl
theorem I_X7_rehearseSlack_14 : zin zm_X7_rehearseSlack.2.2.2.2.2 14 = some (.aload_n 0, 1) := by rw [It_X7_rehearseSlack]; rfl
theorem I_X7_rehearseSlack_15 : zin zm_X7_rehearseSlack.2.2.2.2.2 15 = some (.getfield 26, 3) := by rw [It_X7_rehearseSlack]; rfl
theorem I_X7_rehearseSlack_18 : zin zm_X7_rehearseSlack.2.2.2.2.2 18 = some (.getfield 173, 3) := by rw [It_X7_rehearseSlack]; rfl
theorem I_X7_rehearseSlack_21 : zin zm_X7_rehearseSlack.2.2.2.2.2 21 = some (.iload_n 1, 1) := by rw [It_X7_rehearseSlack]; rfl
theorem I_X7_rehearseSlack_22 : zin zm_X7_rehearseSlack.2.2.2.2.2 22 = some (.putfield 93, 3) := by rw [It_X7_rehearseSlack]; rfl
theorem I_X7_rehearseSlack_25 : zin zm_X7_rehearseSlack.2.2.2.2.2 25 = some (.aload_n 0, 1) := by rw [It_X7_rehearseSlack]; rfl
theorem I_X7_rehearseSlack_26 : zin zm_X7_rehearseSlack.2.2.2.2.2 26 = some (.getfield 26, 3) := by rw [It_X7_rehearseSlack]; rfl
theorem I_X7_rehearseSlack_29 : zin zm_X7_rehearseSlack.2.2.2.2.2 29 = some (.bipush 31, 2) := by rw [It_X7_rehearseSlack]; rfl
theorem I_X7_rehearseSlack_31 : zin zm_X7_rehearseSlack.2.2.2.2.2 31 = some (.invokevirtual 179, 3) := by rw [It_X7_rehearseSlack]; rfl
theorem I_X7_rehearseSlack_34 : zin zm_X7_rehearseSlack.2.2.2.2.2 34 = some (.pop, 1) := by rw [It_X7_rehearseSlack]; rfl
theorem I_X7_rehearseSlack_35 : zin zm_X7_rehearseSlack.2.2.2.2.2 35 = some (.return_, 1) := by rw [It_X7_rehearseSlack]; rfl
theorem I_X8_hands_0 : zin zm_X8_hands.2.2.2.2.2 0 = some (.iload_n 1, 1) := by rw [It_X8_hands]; rfl
theorem I_X8_hands_1 : zin zm_X8_hands.2.2.2.2.2 1 = some (.i2l, 1) := by rw [It_X8_hands]; rfl
theorem I_X8_hands_2 : zin zm_X8_hands.2.2.2.2.2 2 = some (.lconst 0, 1) := by rw [It_X8_hands]; rfl
theorem I_X8_hands_3 : zin zm_X8_hands.2.2.2.2.2 3 = some (.lconst 1, 1) := by rw [It_X8_hands]; rfl
theorem I_X8_hands_4 : zin zm_X8_hands.2.2.2.2.2 4 = some (.invokestatic 55, 3) := by rw [It_X8_hands]; rfl
theorem I_X8_hands_7 : zin zm_X8_hands.2.2.2.2.2 7 = some (.ifCond .ne 5, 3) := by rw [It_X8_hands]; rfl
theorem I_X8_hands_10 : zin zm_X8_hands.2.2.2.2.2 10 = some (.iconst (-1), 1) := by rw [It_X8_hands]; rfl
theorem I_X8_hands_11 : zin zm_X8_hands.2.2.2.2.2 11 = some (.ireturn, 1) := by rw [It_X8_hands]; rfl
theorem I_X8_hands_12 : zin zm_X8_hands.2.2.2.2.2 12 = some (.iconst (-1), 1) := by rw [It_X8_hands]; rfl
theorem I_X8_hands_13 : zin zm_X8_hands.2.2.2.2.2 13 = some (.istore_n 2, 1) := by rw [It_X8_hands]; rfl
theorem I_X8_hands_14 : zin zm_X8_hands.2.2.2.2.2 14 = some (.iconst 0, 1) := by rw [It_X8_hands]; rfl
theorem I_X8_hands_15 : zin zm_X8_hands.2.2.2.2.2 15 = some (.istore_n 3, 1) := by rw [It_X8_hands]; rfl
theorem I_X8_hands_16 : zin zm_X8_hands.2.2.2.2.2 16 = some (.iconst 0, 1) := by rw [It_X8_hands]; rfl
theorem I_X8_hands_17 : zin zm_X8_hands.2.2.2.2.2 17 = some (.istore 4, 2) := by rw [It_X8_hands]; rfl
theorem I_X8_hands_19 : zin zm_X8_hands.2.2.2.2.2 19 = some (.iload 4, 2) := by rw [It_X8_hands]; rfl
theorem I_X8_hands_21 : zin zm_X8_hands.2.2.2.2.2 21 = some (.aload_n 0, 1) := by rw [It_X8_hands]; rfl
theorem I_X8_hands_22 : zin zm_X8_hands.2.2.2.2.2 22 = some (.invokevirtual 167, 3) := by rw [It_X8_hands]; rfl
theorem I_X8_hands_25 : zin zm_X8_hands.2.2.2.2.2 25 = some (.if_icmp .gt 62, 3) := by rw [It_X8_hands]; rfl
theorem I_X8_hands_28 : zin zm_X8_hands.2.2.2.2.2 28 = some (.aload_n 0, 1) := by rw [It_X8_hands]; rfl
theorem I_X8_hands_29 : zin zm_X8_hands.2.2.2.2.2 29 = some (.iconst 0, 1) := by rw [It_X8_hands]; rfl
theorem I_X8_hands_30 : zin zm_X8_hands.2.2.2.2.2 30 = some (.bipush 108, 2) := by rw [It_X8_hands]; rfl
theorem I_X8_hands_32 : zin zm_X8_hands.2.2.2.2.2 32 = some (.invokevirtual 188, 3) := by rw [It_X8_hands]; rfl
theorem I_X8_hands_35 : zin zm_X8_hands.2.2.2.2.2 35 = some (.aload_n 0, 1) := by rw [It_X8_hands]; rfl
theorem I_X8_hands_36 : zin zm_X8_hands.2.2.2.2.2 36 = some (.getfield 7, 3) := by rw [It_X8_hands]; rfl
theorem I_X8_hands_39 : zin zm_X8_hands.2.2.2.2.2 39 = some (.bipush 123, 2) := by rw [It_X8_hands]; rfl
theorem I_X8_hands_41 : zin zm_X8_hands.2.2.2.2.2 41 = some (.iload 4, 2) := by rw [It_X8_hands]; rfl
theorem I_X8_hands_43 : zin zm_X8_hands.2.2.2.2.2 43 = some (.iastore, 1) := by rw [It_X8_hands]; rfl
theorem I_X8_hands_44 : zin zm_X8_hands.2.2.2.2.2 44 = some (.aload_n 0, 1) := by rw [It_X8_hands]; rfl
theorem I_X8_hands_45 : zin zm_X8_hands.2.2.2.2.2 45 = some (.iconst 0, 1) := by rw [It_X8_hands]; rfl
theorem I_X8_hands_46 : zin zm_X8_hands.2.2.2.2.2 46 = some (.invokevirtual 192, 3) := by rw [It_X8_hands]; rfl
theorem I_X8_hands_49 : zin zm_X8_hands.2.2.2.2.2 49 = some (.aload_n 0, 1) := by rw [It_X8_hands]; rfl
theorem I_X8_hands_50 : zin zm_X8_hands.2.2.2.2.2 50 = some (.getfield 179, 3) := by rw [It_X8_hands]; rfl
theorem I_X8_hands_53 : zin zm_X8_hands.2.2.2.2.2 53 = some (.iload_n 2, 1) := by rw [It_X8_hands]; rfl
theorem I_X8_hands_54 : zin zm_X8_hands.2.2.2.2.2 54 = some (.if_icmp .le 8, 3) := by rw [It_X8_hands]; rfl
theorem I_X8_hands_57 : zin zm_X8_hands.2.2.2.2.2 57 = some (.iload 4, 2) := by rw [It_X8_hands]; rfl
theorem I_X8_hands_59 : zin zm_X8_hands.2.2.2.2.2 59 = some (.goto 4, 3) := by rw [It_X8_hands]; rfl
theorem I_X8_hands_62 : zin zm_X8_hands.2.2.2.2.2 62 = some (.iload_n 3, 1) := by rw [It_X8_hands]; rfl
theorem I_X8_hands_63 : zin zm_X8_hands.2.2.2.2.2 63 = some (.istore_n 3, 1) := by rw [It_X8_hands]; rfl
theorem I_X8_hands_64 : zin zm_X8_hands.2.2.2.2.2 64 = some (.aload_n 0, 1) := by rw [It_X8_hands]; rfl
theorem I_X8_hands_65 : zin zm_X8_hands.2.2.2.2.2 65 = some (.getfield 179, 3) := by rw [It_X8_hands]; rfl
theorem I_X8_hands_68 : zin zm_X8_hands.2.2.2.2.2 68 = some (.iload_n 2, 1) := by rw [It_X8_hands]; rfl
theorem I_X8_hands_69 : zin zm_X8_hands.2.2.2.2.2 69 = some (.if_icmp .le 10, 3) := by rw [It_X8_hands]; rfl
theorem I_X8_hands_72 : zin zm_X8_hands.2.2.2.2.2 72 = some (.aload_n 0, 1) := by rw [It_X8_hands]; rfl
theorem I_X8_hands_73 : zin zm_X8_hands.2.2.2.2.2 73 = some (.getfield 179, 3) := by rw [It_X8_hands]; rfl
theorem I_X8_hands_76 : zin zm_X8_hands.2.2.2.2.2 76 = some (.goto 4, 3) := by rw [It_X8_hands]; rfl
theorem I_X8_hands_79 : zin zm_X8_hands.2.2.2.2.2 79 = some (.iload_n 2, 1) := by rw [It_X8_hands]; rfl
theorem I_X8_hands_80 : zin zm_X8_hands.2.2.2.2.2 80 = some (.istore_n 2, 1) := by rw [It_X8_hands]; rfl
theorem I_X8_hands_81 : zin zm_X8_hands.2.2.2.2.2 81 = some (.iinc 4 1, 3) := by rw [It_X8_hands]; rfl
theorem I_X8_hands_84 : zin zm_X8_hands.2.2.2.2.2 84 = some (.goto (-65), 3) := by rw [It_X8_hands]; rfl
theorem I_X8_hands_87 : zin zm_X8_hands.2.2.2.2.2 87 = some (.iload_n 1, 1) := by rw [It_X8_hands]; rfl
theorem I_X8_hands_88 : zin zm_X8_hands.2.2.2.2.2 88 = some (.ifCond .ne 7, 3) := by rw [It_X8_hands]; rfl
theorem I_X8_hands_91 : zin zm_X8_hands.2.2.2.2.2 91 = some (.iload_n 3, 1) := by rw [It_X8_hands]; rfl
theorem I_X8_hands_92 : zin zm_X8_hands.2.2.2.2.2 92 = some (.goto 4, 3) := by rw [It_X8_hands]; rfl
theorem I_X8_hands_95 : zin zm_X8_hands.2.2.2.2.2 95 = some (.iload_n 2, 1) := by rw [It_X8_hands]; rfl
theorem I_X8_hands_96 : zin zm_X8_hands.2.2.2.2.2 96 = some (.ireturn, 1) := by rw [It_X8_hands]; rfl
theorem I_X8_loose_0 : zin zm_X8_loose.2.2.2.2.2 0 = some (.iconst 0, 1) := by rw [It_X8_loose]; rfl
theorem I_X8_loose_1 : zin zm_X8_loose.2.2.2.2.2 1 = some (.istore_n 1, 1) := by rw [It_X8_loose]; rfl
theorem I_X8_loose_2 : zin zm_X8_loose.2.2.2.2.2 2 = some (.iload_n 1, 1) := by rw [It_X8_loose]; rfl
theorem I_X8_loose_3 : zin zm_X8_loose.2.2.2.2.2 3 = some (.bipush 10, 2) := by rw [It_X8_loose]; rfl
theorem I_X8_loose_5 : zin zm_X8_loose.2.2.2.2.2 5 = some (.if_icmp .ge 42, 3) := by rw [It_X8_loose]; rfl
theorem I_X8_loose_8 : zin zm_X8_loose.2.2.2.2.2 8 = some (.aload_n 0, 1) := by rw [It_X8_loose]; rfl
theorem I_X8_loose_9 : zin zm_X8_loose.2.2.2.2.2 9 = some (.iconst 0, 1) := by rw [It_X8_loose]; rfl
theorem I_X8_loose_10 : zin zm_X8_loose.2.2.2.2.2 10 = some (.bipush 108, 2) := by rw [It_X8_loose]; rfl
theorem I_X8_loose_12 : zin zm_X8_loose.2.2.2.2.2 12 = some (.invokevirtual 188, 3) := by rw [It_X8_loose]; rfl
theorem I_X8_loose_15 : zin zm_X8_loose.2.2.2.2.2 15 = some (.aload_n 0, 1) := by rw [It_X8_loose]; rfl
theorem I_X8_loose_16 : zin zm_X8_loose.2.2.2.2.2 16 = some (.getfield 7, 3) := by rw [It_X8_loose]; rfl
theorem I_X8_loose_19 : zin zm_X8_loose.2.2.2.2.2 19 = some (.bipush 124, 2) := by rw [It_X8_loose]; rfl
theorem I_X8_loose_21 : zin zm_X8_loose.2.2.2.2.2 21 = some (.iload_n 1, 1) := by rw [It_X8_loose]; rfl
theorem I_X8_loose_22 : zin zm_X8_loose.2.2.2.2.2 22 = some (.iconst 1, 1) := by rw [It_X8_loose]; rfl
theorem I_X8_loose_23 : zin zm_X8_loose.2.2.2.2.2 23 = some (.isub, 1) := by rw [It_X8_loose]; rfl
theorem I_X8_loose_24 : zin zm_X8_loose.2.2.2.2.2 24 = some (.iastore, 1) := by rw [It_X8_loose]; rfl
theorem I_X8_loose_25 : zin zm_X8_loose.2.2.2.2.2 25 = some (.aload_n 0, 1) := by rw [It_X8_loose]; rfl
theorem I_X8_loose_26 : zin zm_X8_loose.2.2.2.2.2 26 = some (.iconst 0, 1) := by rw [It_X8_loose]; rfl
theorem I_X8_loose_27 : zin zm_X8_loose.2.2.2.2.2 27 = some (.invokevirtual 192, 3) := by rw [It_X8_loose]; rfl
theorem I_X8_loose_30 : zin zm_X8_loose.2.2.2.2.2 30 = some (.aload_n 0, 1) := by rw [It_X8_loose]; rfl
theorem I_X8_loose_31 : zin zm_X8_loose.2.2.2.2.2 31 = some (.getfield 185, 3) := by rw [It_X8_loose]; rfl
theorem I_X8_loose_34 : zin zm_X8_loose.2.2.2.2.2 34 = some (.bipush (-4), 2) := by rw [It_X8_loose]; rfl
theorem I_X8_loose_36 : zin zm_X8_loose.2.2.2.2.2 36 = some (.if_icmp .ne 5, 3) := by rw [It_X8_loose]; rfl
theorem I_X8_loose_39 : zin zm_X8_loose.2.2.2.2.2 39 = some (.iload_n 1, 1) := by rw [It_X8_loose]; rfl
theorem I_X8_loose_40 : zin zm_X8_loose.2.2.2.2.2 40 = some (.ireturn, 1) := by rw [It_X8_loose]; rfl
theorem I_X8_loose_41 : zin zm_X8_loose.2.2.2.2.2 41 = some (.iinc 1 1, 3) := by rw [It_X8_loose]; rfl
theorem I_X8_loose_44 : zin zm_X8_loose.2.2.2.2.2 44 = some (.goto (-42), 3) := by rw [It_X8_loose]; rfl
theorem I_X8_loose_47 : zin zm_X8_loose.2.2.2.2.2 47 = some (.bipush (-4), 2) := by rw [It_X8_loose]; rfl
theorem I_X8_loose_49 : zin zm_X8_loose.2.2.2.2.2 49 = some (.ireturn, 1) := by rw [It_X8_loose]; rfl
theorem K_7_200 : zlk zmls 7 200 = some (0, 7, 1, 674) := rfl
theorem K_7_214 : zlk zmls 7 214 = some (0, 91, 1, 697) := rfl
theorem Zm_91 : zms[91]? = some zm_X7_rehearseSlack := rfl
theorem cl_X7_hands : zm_X7_hands.2.2.2.2.1 = 7 := by
  unfold zm_X7_hands
  rfl
theorem cn_X7_hands : zm_X7_hands.2.2.2.2.1 ≠ 12 := by
  rw [cl_X7_hands]
  decide
theorem cn2_X7_hands : zm_X7_hands.2.2.2.2.1 ≠ 2 := by
  rw [cl_X7_hands]
  decide
theorem cl_X7_loose : zm_X7_loose.2.2.2.2.1 = 7 := by
  unfold zm_X7_loose
  rfl
theorem cn_X7_loose : zm_X7_loose.2.2.2.2.1 ≠ 12 := by
  rw [cl_X7_loose]
  decide
theorem cn2_X7_loose : zm_X7_loose.2.2.2.2.1 ≠ 2 := by
  rw [cl_X7_loose]
  decide
theorem cl_X7_rehearseSlack : zm_X7_rehearseSlack.2.2.2.2.1 = 7 := by
  unfold zm_X7_rehearseSlack
  rfl
theorem cn_X7_rehearseSlack : zm_X7_rehearseSlack.2.2.2.2.1 ≠ 12 := by
  rw [cl_X7_rehearseSlack]
  decide
theorem cn2_X7_rehearseSlack : zm_X7_rehearseSlack.2.2.2.2.1 ≠ 2 := by
  rw [cl_X7_rehearseSlack]
  decide
theorem cl_X8_hands : zm_X8_hands.2.2.2.2.1 = 8 := by
  unfold zm_X8_hands
  rfl
theorem cn_X8_hands : zm_X8_hands.2.2.2.2.1 ≠ 12 := by
  rw [cl_X8_hands]
  decide
theorem cn2_X8_hands : zm_X8_hands.2.2.2.2.1 ≠ 2 := by
  rw [cl_X8_hands]
  decide
theorem cl_X8_loose : zm_X8_loose.2.2.2.2.1 = 8 := by
  unfold zm_X8_loose
  rfl
theorem cn_X8_loose : zm_X8_loose.2.2.2.2.1 ≠ 12 := by
  rw [cl_X8_loose]
  decide
theorem cn2_X8_loose : zm_X8_loose.2.2.2.2.1 ≠ 2 := by
  rw [cl_X8_loose]
  decide
theorem t_play31 {d : Nat} {m : zM} {r : Option Value} {h' : zHp} {c : Nat} {g : Nat → Int32} (hL : LV m 20 c g) (hg : gok g c) (H : zE none d zm_X3_play 0 [.ref 19, .int 31, .null, .null] [] m r h') : ∃ m1, r = some (.int (gPl c g).2.1) ∧ h' = zhp m1 ∧ cP m1 c (gPl c g) ∧ ∀ x y, ¬ (19 ≤ x ∧ x ≤ 28) → m1 x y = m x y := t_X3_play hL hg H
theorem t_goes0 {d : Nat} {m : zM} {r : Option Value} {h' : zHp} {c a : Nat} {g : Nat → Int32} (hP : PG m 108 g) (hg : gok g c) (ha : g 26 = Int32.ofNat a) (ha8 : a ≤ 8) (hpl : gpl g) (hc : m 71 2 = Int32.ofNat c) (hM : zMk m) (H : zE none d zm_X8_planGoes 0 [.ref 71, .int 0, .null, .null] [] m r h') : ∃ m1, r = none ∧ h' = zhp m1 ∧ rP m1 8 (gPl c g) ∧ zfP m m1 := by
  obtain ⟨m1, a1, a2, a3, a4⟩ := t_X8_planGoes hP hg ha ha8 hpl hc hM H
  rw [gPl_m hg hpl ha ha8] at a3
  exact ⟨m1, a1, a2, a3, a4⟩
theorem LV_up {m : zM} {k c p f : Nat} {g : Nat → Int32} {v : Int32} (hL : LV m k c g) (hp : p < c) (hf : f = 1 ∨ f = 2) : LV (zup m (k + 3 + p) f v) k c (gset g (5 * f + p) v) := by
  obtain ⟨h1, h2, h3, h4, h5, a, a1, a2, a3, a4⟩ := hL
  refine ⟨by rw [zup_n (by omega)]; exact h1, h2, fun i hi => ⟨?_, ?_, ?_, ?_⟩, by rw [zup_n (by omega), gset_n (by omega)]; exact h4, by rw [zup_n (by omega), gset_n (by omega)]; exact h5, a, a1, by rw [gset_n (by omega)]; exact a2, by rw [zup_n (by omega)]; exact a3, fun i hi => by rw [zup_n (by omega), gset_n (by omega)]; exact a4 i hi⟩
  · rw [zup_n (by omega), gset_n (by omega)]; exact (h3 i hi).1
  · by_cases he : i = p ∧ f = 1
    · obtain ⟨rfl, rfl⟩ := he
      rw [zup_s]
      exact (gset_s g (5 * 1 + i) v).symm
    · rw [zup_n (by omega), gset_n (by omega)]; exact (h3 i hi).2.1
  · by_cases he : i = p ∧ f = 2
    · obtain ⟨rfl, rfl⟩ := he
      rw [zup_s]
      exact (gset_s g (5 * 2 + i) v).symm
    · rw [zup_n (by omega), gset_n (by omega)]; exact (h3 i hi).2.2.1
  · rw [zup_n (by omega), gset_n (by omega)]; exact (h3 i hi).2.2.2
theorem LV_st {m : zM} {k c p : Nat} {g : Nat → Int32} {v : Int32} (hL : LV m k c g) (hp : p < c) : LV (zset m (k + 3 + p) v) k c (gset g (gat g p) v) := by
  have e : m (k + 3 + p) 3 = zbt (g 15) p := (hL.2.2.1 p hp).2.2.2
  unfold zset gat
  by_cases hb : zbt (g 15) p = 1
  · rw [if_pos (e.trans hb), if_pos hb]
    exact LV_up hL hp (Or.inr rfl)
  · rw [if_neg (fun w => hb (e.symm.trans w)), if_neg hb]
    exact LV_up hL hp (Or.inl rfl)
theorem zset_f {m : zM} {p a b : Nat} {v : Int32} (h : ¬ a = p) : zset m p v a b = m a b := by
  unfold zset
  split
  · exact zup_n (fun w => h w.1)
  · exact zup_n (fun w => h w.1)
theorem LV_sl {m : zM} {k c : Nat} {g : Nat → Int32} {x : Int32} (hL : LV m k c g) : LV (zup m k 4 x) k c (gset g 16 (x - 1)) := by
  obtain ⟨h1, h2, h3, h4, h5, a, a1, a2, a3, a4⟩ := hL
  refine ⟨by rw [zup_n (by omega)]; exact h1, h2, fun i hi => ?_, by rw [zup_s, gset_s, Int32.sub_add_cancel], by rw [zup_n (by omega), gset_n (by omega)]; exact h5, a, a1, by rw [gset_n (by omega)]; exact a2, by rw [zup_n (by omega)]; exact a3, fun i hi => by rw [zup_n (by omega), gset_n (by omega)]; exact a4 i hi⟩
  rw [zup_n (by omega), zup_n (by omega), zup_n (by omega), zup_n (by omega), gset_n (by omega), gset_n (by omega), gset_n (by omega), gset_n (by omega)]
  exact h3 i hi
theorem PG_up {m : zM} {pg j : Nat} {g : Nat → Int32} {v : Int32} (hP : PG m pg g) (hj : j < 27) : PG (zup m 72 (pg + j) v) pg (gset g j v) := ⟨hP.1, fun i hi => by
  by_cases e : i = j
  · subst e
    rw [zup_s, gset_s]
  · rw [zup_n (by omega), gset_n e]
    exact hP.2 i hi⟩
theorem gok_s {g : Nat → Int32} {c j : Nat} {v : Int32} (h : gok g c) (h1 : 15 ≤ j) (h2 : j ≤ 16) : gok (gset g j v) c := by
  obtain ⟨a1, a2, a3⟩ := h
  refine ⟨a1, fun i hi => ?_, by rw [gset_n (by omega)]; exact a3⟩
  rw [gset_n (by omega), gset_n (by omega), gset_n (by omega)]
  exact a2 i hi
theorem gok_c {g : Nat → Int32} {c p : Nat} {v : Int32} (h : gok g c) (hp : p < c) (hv : 0 ≤ v.toInt ∧ v.toInt ≤ 99) : gok (gset g (gat g p) v) c := by
  obtain ⟨a1, a2, a3⟩ := h
  obtain ⟨b1, b2⟩ := gat_le (g := g) (i := p) (by omega)
  refine ⟨a1, fun i hi => ⟨by rw [gset_n (by omega)]; exact (a2 i hi).1, ?_, ?_⟩, by rw [gset_n (by omega)]; exact a3⟩
  · by_cases e : 5 + i = gat g p
    · rw [e, gset_s]; exact hv
    · rw [gset_n e]; exact (a2 i hi).2.1
  · by_cases e : 10 + i = gat g p
    · rw [e, gset_s]; exact hv
    · rw [gset_n e]; exact (a2 i hi).2.2
theorem gpl_s {g : Nat → Int32} {j : Nat} {v : Int32} (h : gpl g) (hj : j < 18) : gpl (gset g j v) := fun i hi => by
  rw [gset_n (by omega)]
  exact h i hi
theorem gok_v {g : Nat → Int32} {c i : Nat} (h : gok g c) (hi : i < c) : 0 ≤ (gcn g i).toInt ∧ (gcn g i).toInt ≤ 99 := by
  unfold gcn
  split
  · exact (h.2.1 i hi).2.2
  · exact (h.2.1 i hi).2.1
theorem t_X7_rehearseSlack {d : Nat} {m : zM} {r : Option Value} {h' : zHp} {x : Int32} {c : Nat} {g : Nat → Int32} (hL : LV m 11 c g) (hg : gok g c) (H : zE none d zm_X7_rehearseSlack 0 [.ref 0, .int x] [] m r h') : ∃ m1, r = none ∧ h' = zhp m1 ∧ cP m1 c (gPl c (gset g 16 (x - 1))) ∧ ∀ a b, ¬ (19 ≤ a ∧ a ≤ 28) → m1 a b = m a b := by
  have hL0 := hL
  obtain ⟨l1, l2, l3, l4, l5, a, l6, l7, l8, l9⟩ := hL
  replace H := i_aln (q := 1) H I_X7_rehearseSlack_0 rfl rfl
  replace H := i_gfr (q := 4) H I_X7_rehearseSlack_1 G_7_26 cn_X7_rehearseSlack LY_0 rfl rfl
  replace H := i_gfr (q := 7) H I_X7_rehearseSlack_4 G_7_173 cn_X7_rehearseSlack LY_19 rfl rfl
  replace H := i_aln (q := 8) H I_X7_rehearseSlack_7 rfl rfl
  replace H := i_gfr (q := 11) H I_X7_rehearseSlack_8 G_7_19 cn_X7_rehearseSlack LY_0 rfl rfl
  have W := i_cv1 1 (q := 14) H I_X7_rehearseSlack_11 K_7_77 Zm_2 rfl rfl
  clear H
  obtain ⟨r1, h1, Hc, K1, K2⟩ := W
  obtain ⟨M_11, e1, e2, F_11⟩ := t_become lkk_20 lkk_11 (by omega) l1 l2 l8 l6 Hc
  have H := K2 _ e1 e2
  clear e1 e2 Hc K1 K2
  replace H := i_aln (q := 15) H I_X7_rehearseSlack_14 rfl rfl
  replace H := i_gfr (q := 18) H I_X7_rehearseSlack_15 G_7_26 cn_X7_rehearseSlack LY_0 rfl rfl
  replace H := i_gfr (q := 21) H I_X7_rehearseSlack_18 G_7_173 cn_X7_rehearseSlack LY_19 rfl rfl
  replace H := i_iln (q := 22) H I_X7_rehearseSlack_21 rfl rfl
  replace H := i_pf (q := 25) H I_X7_rehearseSlack_22 G_7_93 cn_X7_rehearseSlack LY_20 rfl rfl
  replace H := i_aln (q := 26) H I_X7_rehearseSlack_25 rfl rfl
  replace H := i_gfr (q := 29) H I_X7_rehearseSlack_26 G_7_26 cn_X7_rehearseSlack LY_0 rfl rfl
  replace H := i_bip (x := 31) (q := 31) H I_X7_rehearseSlack_29 (by decide) rfl
  have W := i_cv1 2 (q := 34) H I_X7_rehearseSlack_31 K_7_179 Zm_44 rfl rfl
  clear H
  obtain ⟨r1, h1, Hc, K1, K2⟩ := W
  obtain ⟨M_31, e1, e2, F_31⟩ := t_play31 (LV_sl (LV_b hL0 l8 l6 F_11)) (gok_s hg (by omega) (by omega)) Hc
  have H := K1 _ _ e1 e2
  clear e1 e2 Hc K1 K2
  replace H := i_pop (q := 35) H I_X7_rehearseSlack_34 rfl rfl
  obtain ⟨hr, hh⟩ := i_rt H I_X7_rehearseSlack_35
  exact ⟨M_31, hr, hh, F_31.1, fun a b hab => (F_31.2 a b hab).trans ((zup_n (by omega)).trans (F_11.2.2.2.2.2.2 a b (by omega)))⟩
def gLo (c : Nat) (g : Nat → Int32) : Nat → Nat → Int32
  | 0, _ => -4
  | j + 1, i => if (gPl c (gset g 16 (Int32.ofNat i - 1))).2.2.2.1 = -4 then Int32.ofNat i else gLo c g j (i + 1)
theorem lo_7 {c : Nat} {g : Nat → Int32} (hg : gok g c) : ∀ (j i d : Nat) (r : Option Value) (h' : zHp) (m : zM), i + j = 10 → LV m 11 c g → zE none d zm_X7_loose 2 [.ref 0, .int (Int32.ofNat i)] [] m r h' → r = some (.int (gLo c g j i)) := by
  intro j
  induction j with
  | zero =>
    intro i d r h' m hj hL H
    replace H := i_iln (q := 3) H I_X7_loose_2 rfl rfl
    replace H := i_bip (x := 9) (q := 5) H I_X7_loose_3 (by decide) rfl
    have W := i_ic_gt (t := 33) (q := 8) H I_X7_loose_5 (by decide) rfl
    clear H
    rcases W with ⟨c_5, H⟩ | ⟨c_5, H⟩
    · skip
      replace H := i_bip (x := (-4)) (q := 35) H I_X7_loose_33 (by decide) rfl
      obtain ⟨hr, hh⟩ := i_ir H I_X7_loose_35
      exact hr
    · exfalso
      exact c_5 ((zofn_lt (i := 9) (by decide) (by omega)).mpr (by omega))
  | succ j ih =>
    intro i d r h' m hj hL H
    replace H := i_iln (q := 3) H I_X7_loose_2 rfl rfl
    replace H := i_bip (x := 9) (q := 5) H I_X7_loose_3 (by decide) rfl
    have W := i_ic_gt (t := 33) (q := 8) H I_X7_loose_5 (by decide) rfl
    clear H
    rcases W with ⟨c_5, H⟩ | ⟨c_5, H⟩
    · exfalso
      exact absurd ((zofn_lt (i := 9) (by decide) (by omega)).mp c_5) (by omega)
    · skip
      replace H := i_aln (q := 9) H I_X7_loose_8 rfl rfl
      replace H := i_iln (q := 10) H I_X7_loose_9 rfl rfl
      have W := i_cv1 0 (q := 13) H I_X7_loose_10 K_7_214 Zm_91 rfl rfl
      clear H
      obtain ⟨r1, h1, Hc, K1, K2⟩ := W
      obtain ⟨M_10, e1, e2, F_10⟩ := t_X7_rehearseSlack hL hg Hc
      have H := K2 _ e1 e2
      clear e1 e2 Hc K1 K2
      replace H := i_aln (q := 14) H I_X7_loose_13 rfl rfl
      replace H := i_gfr (q := 17) H I_X7_loose_14 G_7_26 cn_X7_loose LY_0 rfl rfl
      replace H := i_gfi (q := 20) H I_X7_loose_17 G_7_170 cn_X7_loose LY_19 rfl rfl
      replace H := i_bip (x := (-4)) (q := 22) H I_X7_loose_20 (by decide) rfl
      have W := i_ic_ne (t := 27) (q := 25) H I_X7_loose_22 (by decide) rfl
      clear H
      rcases W with ⟨c_22, H⟩ | ⟨c_22, H⟩
      · skip
        replace H := i_inc (q := 30) H I_X7_loose_27 rfl rfl rfl
        replace H := i_goto (q := 2) H I_X7_loose_30 (by decide)
        obtain ⟨P1, P2, P3, P4, P5⟩ := F_10.1
        rw [P4] at c_22
        replace H : zE none d zm_X7_loose 2 [.ref 0, .int (Int32.ofNat (i + 1))] [] M_10 r h' := by
          rw [← zofn_s]
          exact H
        rw [gLo, if_neg c_22]
        exact ih (i + 1) d r h' M_10 (by omega) (LV_f hL (fun a b h1 h2 => F_10.2 a b (by omega))) H
      · skip
        replace H := i_iln (q := 26) H I_X7_loose_25 rfl rfl
        obtain ⟨hr, hh⟩ := i_ir H I_X7_loose_26
        obtain ⟨P1, P2, P3, P4, P5⟩ := F_10.1
        rw [P4] at c_22
        exact hr.trans (by rw [gLo, if_pos c_22])
theorem t_X7_loose {d : Nat} {m : zM} {r : Option Value} {h' : zHp} {c : Nat} {g : Nat → Int32} (hL : LV m 11 c g) (hg : gok g c) (H : zE none d zm_X7_loose 0 [.ref 0, .null] [] m r h') : r = some (.int (gLo c g 10 0)) := by
  replace H := i_icst (x := 0) (q := 1) H I_X7_loose_0 (by decide) rfl
  replace H := i_isn (q := 2) H I_X7_loose_1 rfl rfl
  exact lo_7 hg 10 0 d r h' m rfl hL H
theorem lo_8 {c a : Nat} {g : Nat → Int32} (hg : gok g c) (hpl : gpl g) (ha : g 26 = Int32.ofNat a) (ha8 : a ≤ 8) : ∀ (j i d : Nat) (r : Option Value) (h' : zHp) (m : zM), i + j = 10 → PG m 0 g → m 71 2 = Int32.ofNat c → zMk m → zE none d zm_X8_loose 2 [.ref 71, .int (Int32.ofNat i)] [] m r h' → r = some (.int (gLo c g j i)) := by
  intro j
  induction j with
  | zero =>
    intro i d r h' m hj hP hc hM H
    replace H := i_iln (q := 3) H I_X8_loose_2 rfl rfl
    replace H := i_bip (x := 10) (q := 5) H I_X8_loose_3 (by decide) rfl
    have W := i_ic_ge (t := 47) (q := 8) H I_X8_loose_5 (by decide) rfl
    clear H
    rcases W with ⟨c_5, H⟩ | ⟨c_5, H⟩
    · skip
      replace H := i_bip (x := (-4)) (q := 49) H I_X8_loose_47 (by decide) rfl
      obtain ⟨hr, hh⟩ := i_ir H I_X8_loose_49
      exact hr
    · exfalso
      exact absurd ((zofn_lt (j := 10) (by omega) (by decide)).mp c_5) (by omega)
  | succ j ih =>
    intro i d r h' m hj hP hc hM H
    replace H := i_iln (q := 3) H I_X8_loose_2 rfl rfl
    replace H := i_bip (x := 10) (q := 5) H I_X8_loose_3 (by decide) rfl
    have W := i_ic_ge (t := 47) (q := 8) H I_X8_loose_5 (by decide) rfl
    clear H
    rcases W with ⟨c_5, H⟩ | ⟨c_5, H⟩
    · exfalso
      exact c_5 ((zofn_lt (j := 10) (by omega) (by decide)).mpr (by omega))
    · skip
      replace H := i_aln (q := 9) H I_X8_loose_8 rfl rfl
      replace H := i_icst (x := 0) (q := 10) H I_X8_loose_9 (by decide) rfl
      replace H := i_bip (x := 108) (q := 12) H I_X8_loose_10 (by decide) rfl
      have W := i_cv2 1 (q := 15) H I_X8_loose_12 K_8_188 Zm_147 rfl rfl
      clear H
      obtain ⟨r1, h1, Hc, K1, K2⟩ := W
      obtain ⟨M_12, e1, e2, F_12⟩ := t_X8_copies (f := 0) (t := 108) rfl rfl (by omega) (by omega) (by omega) Hc
      have H := K2 _ e1 e2
      clear e1 e2 Hc K1 K2
      replace H := i_aln (q := 16) H I_X8_loose_15 rfl rfl
      replace H := i_gfr (q := 19) H I_X8_loose_16 G_8_7 cn_X8_loose LY_71 rfl rfl
      replace H := i_bip (x := 124) (q := 21) H I_X8_loose_19 (by decide) rfl
      replace H := i_iln (q := 22) H I_X8_loose_21 rfl rfl
      replace H := i_icst (x := 1) (q := 23) H I_X8_loose_22 (by decide) rfl
      replace H := i_isub (q := 24) H I_X8_loose_23 rfl
      have W := i_iast (q := 25) H I_X8_loose_24 LY_72 rfl
      clear H
      obtain ⟨i_24, bi_24, ei_24, H⟩ := W
      replace H := i_aln (q := 26) H I_X8_loose_25 rfl rfl
      replace H := i_icst (x := 0) (q := 27) H I_X8_loose_26 (by decide) rfl
      have W := i_cv1 2 (q := 30) H I_X8_loose_27 K_8_192 Zm_148 rfl rfl
      clear H
      obtain ⟨r1, h1, Hc, K1, K2⟩ := W
      have e24 : i_24 = 108 + 16 := (zofn (i := 124) ei_24 (by decide) (by omega)).symm
      subst e24
      obtain ⟨M_27, e1, e2, F_27⟩ := t_goes0 (PG_up (PG_cp hP F_12) (by omega)) (gok_s hg (by omega) (by omega)) ((gset_n (by omega)).trans ha) ha8 (gpl_s hpl (by omega)) ((zup_n (by omega)).trans ((F_12.2 71 2 (by omega)).trans hc)) (zMk_f hM (fun b => (zup_n (by omega)).trans (F_12.2 73 b (by omega)))) Hc
      have H := K2 _ e1 e2
      clear e1 e2 Hc K1 K2
      replace H := i_aln (q := 31) H I_X8_loose_30 rfl rfl
      replace H := i_gfi (q := 34) H I_X8_loose_31 G_8_185 cn_X8_loose LY_71 rfl rfl
      replace H := i_bip (x := (-4)) (q := 36) H I_X8_loose_34 (by decide) rfl
      have W := i_ic_ne (t := 41) (q := 39) H I_X8_loose_36 (by decide) rfl
      clear H
      rcases W with ⟨c_36, H⟩ | ⟨c_36, H⟩
      · skip
        replace H := i_inc (q := 44) H I_X8_loose_41 rfl rfl rfl
        replace H := i_goto (q := 2) H I_X8_loose_44 (by decide)
        obtain ⟨P1, P2, P3, P4, P5⟩ := F_27.1
        rw [P4] at c_36
        replace H : zE none d zm_X8_loose 2 [.ref 71, .int (Int32.ofNat (i + 1))] [] M_27 r h' := by
          rw [← zofn_s]
          exact H
        rw [gLo, if_neg c_36]
        exact ih (i + 1) d r h' M_27 (by omega) ⟨hP.1, fun j hj => ((F_27.2 72 (0 + j) (by omega) (by omega) (by omega)).trans ((zup_n (by omega)).trans (F_12.2 72 (0 + j) (by omega)))).trans (hP.2 j hj)⟩ (((F_27.2 71 2 (by omega) (by omega) (by omega)).trans ((zup_n (by omega)).trans (F_12.2 71 2 (by omega)))).trans hc) (zMk_f hM (fun b => (F_27.2 73 b (by omega) (by omega) (by omega)).trans ((zup_n (by omega)).trans (F_12.2 73 b (by omega))))) H
      · skip
        replace H := i_iln (q := 40) H I_X8_loose_39 rfl rfl
        obtain ⟨hr, hh⟩ := i_ir H I_X8_loose_40
        obtain ⟨P1, P2, P3, P4, P5⟩ := F_27.1
        rw [P4] at c_36
        exact hr.trans (by rw [gLo, if_pos c_36])
theorem t_X8_loose {d : Nat} {m : zM} {r : Option Value} {h' : zHp} {c a : Nat} {g : Nat → Int32} (hP : PG m 0 g) (hg : gok g c) (hpl : gpl g) (ha : g 26 = Int32.ofNat a) (ha8 : a ≤ 8) (hc : m 71 2 = Int32.ofNat c) (hM : zMk m) (H : zE none d zm_X8_loose 0 [.ref 71, .null] [] m r h') : r = some (.int (gLo c g 10 0)) := by
  replace H := i_icst (x := 0) (q := 1) H I_X8_loose_0 (by decide) rfl
  replace H := i_isn (q := 2) H I_X8_loose_1 rfl rfl
  exact lo_8 hg hpl ha ha8 10 0 d r h' m rfl hP hc hM H
theorem pd_loose {m : zM} {r : Option Value} {h' : zHp} (ht : zTy m) (hR : RF m) (H : zEv none 19 zm_X7_loose (0, lv_args 0 [.ref 0], [], zhp m) r h') : ∃ m1 v, r = some (.int v) ∧ h' = zhp m1 ∧ zTy m1 ∧ ∀ r2 h2, zEv none 19 zm_X8_loose (0, lv_args 0 [.ref 71], [], zhp m1) r2 h2 → ∃ m2 v2, r2 = some (.int v2) ∧ h2 = zhp m2 ∧ zTy m2 ∧ RF m2 ∧ v = v2 := by
  have hR0 := hR
  obtain ⟨⟨_, hM, _, _, c, c1, ⟨hL, hb⟩, _⟩, _⟩ := hR
  have hg := gok_11 ht hL
  have hpl := gpl_0 ht
  obtain ⟨a, a6, a7, _⟩ := hL.2.2.2.2.2
  obtain ⟨m1, v, a1, a2, a3, a4⟩ := e_X7_loose ht H
  refine ⟨m1, v, a1, a2, a3, fun r2 h2 H2 => ?_⟩
  obtain ⟨m2, v2, b1, b2, b3, b4⟩ := e_X8_loose a3 H2
  refine ⟨m2, v2, b1, b2, b3, RF_f (RF_f hR0 a4 (by decide +kernel)) b4 (by decide +kernel), ?_⟩
  have hP1 : PG m1 0 (pgf m 0) := ⟨by omega, fun j hj => a4 72 (0 + j) (zpl_r LY_72 (by omega)) (ymd_c (by decide +kernel) _)⟩
  have hM1 : zMk m1 := ⟨(a4 73 0 ⟨_, LY_73, rfl⟩ (by decide +kernel)).trans hM.1, (a4 73 1 ⟨_, LY_73, rfl⟩ (by decide +kernel)).trans hM.2.1, (a4 73 2 ⟨_, LY_73, rfl⟩ (by decide +kernel)).trans hM.2.2.1, (a4 73 3 ⟨_, LY_73, rfl⟩ (by decide +kernel)).trans hM.2.2.2⟩
  have hc1 : m1 71 2 = Int32.ofNat c := (a4 71 2 ⟨_, LY_71, rfl⟩ (by decide +kernel)).trans c1
  have k1 := t_X7_loose hL hg (zE_of 1 rfl H)
  have k2 := t_X8_loose hP1 hg hpl a7 a6 hc1 hM1 (zE_of 1 rfl H2)
  rw [a1] at k1
  rw [b1] at k2
  cases k1
  cases k2
  rfl
def gBs (f ix : Nat → Int32) : Nat → Nat → Int32 → Int32 → Int32 × Int32
  | 0, _, b, mo => (b, mo)
  | j + 1, i, b, mo => if mo < f i then gBs f ix j (i + 1) (ix i) (f i) else gBs f ix j (i + 1) b mo
def gHf (c : Nat) (g : Nat → Int32) (i : Nat) : Int32 := (gPl c (gset g 15 (Int32.ofNat i))).2.1
def gHands (c : Nat) (g : Nat → Int32) (w : Int32) : Int32 := if zBt w 0 1 then (if w = 0 then (gBs (gHf c g) Int32.ofNat (2 ^ c) 0 0 (-1)).1 else (gBs (gHf c g) Int32.ofNat (2 ^ c) 0 0 (-1)).2) else -1
theorem uh_lp2 {k c : Nat} {x : Int32} (hk : zlk6 k) (hc5 : c ≤ 5) : ∀ (j i d : Nat) (r : Option Value) (h' : zHp) (m : zM), i + j = c → m k 2 = Int32.ofNat c → zE none d zm_X0_useHands 2 [.ref k, .int x, .int (Int32.ofNat i)] [] m r h' → ∃ m1, r = none ∧ h' = zhp m1 ∧ (∀ i', i ≤ i' → i' < c → m1 (k + 3 + i') 3 = zbt x i') ∧ ∀ a b, ¬ (b = 3 ∧ k + 3 + i ≤ a ∧ a < k + 3 + c) → m1 a b = m a b := by
  intro j
  induction j with
  | zero =>
    intro i d r h' m hj hc H
    replace H := i_iln (q := 3) H I_X0_useHands_2 rfl rfl
    replace H := i_aln (q := 4) H I_X0_useHands_3 rfl rfl
    replace H := i_gfi (q := 7) H I_X0_useHands_4 G_0_26 cn_X0_useHands (lk_0 hk) rfl rfl
    have W := i_ic_ge (t := 30) (q := 10) H I_X0_useHands_7 (by decide) rfl
    clear H
    rcases W with ⟨c_7, H⟩ | ⟨c_7, H⟩
    · skip
      obtain ⟨hr, hh⟩ := i_rt H I_X0_useHands_30
      exact ⟨m, hr, hh, fun i' h1 h2 => by omega, fun _ _ _ => rfl⟩
    · exfalso
      rw [hc] at c_7
      exact absurd ((zofn_lt (by omega) (by omega)).mp c_7) (by omega)
  | succ j ih =>
    intro i d r h' m hj hc H
    replace H := i_iln (q := 3) H I_X0_useHands_2 rfl rfl
    replace H := i_aln (q := 4) H I_X0_useHands_3 rfl rfl
    replace H := i_gfi (q := 7) H I_X0_useHands_4 G_0_26 cn_X0_useHands (lk_0 hk) rfl rfl
    have W := i_ic_ge (t := 30) (q := 10) H I_X0_useHands_7 (by decide) rfl
    clear H
    rcases W with ⟨c_7, H⟩ | ⟨c_7, H⟩
    · exfalso
      rw [hc] at c_7
      exact c_7 ((zofn_lt (by omega) (by omega)).mpr (by omega))
    · skip
      replace H := i_aln (q := 11) H I_X0_useHands_10 rfl rfl
      replace H := i_gfr (q := 14) H I_X0_useHands_11 G_0_11 cn_X0_useHands (lk_0 hk) rfl rfl
      replace H := i_iln (q := 15) H I_X0_useHands_14 rfl rfl
      have W := i_folk (k := k) hk (q := 16) H I_X0_useHands_15 rfl
      clear H
      obtain ⟨i_15, bi_15, ei_15, H⟩ := W
      replace H := i_iln (q := 17) H I_X0_useHands_16 rfl rfl
      replace H := i_iln (q := 18) H I_X0_useHands_17 rfl rfl
      replace H := i_ishr (q := 19) H I_X0_useHands_18 rfl
      replace H := i_icst (x := 1) (q := 20) H I_X0_useHands_19 (by decide) rfl
      replace H := i_iand (q := 21) H I_X0_useHands_20 rfl
      replace H := i_pf (q := 24) H I_X0_useHands_21 G_0_48 cn_X0_useHands (lk_p hk bi_15) rfl rfl
      replace H := i_inc (q := 27) H I_X0_useHands_24 rfl rfl rfl
      replace H := i_goto (q := 2) H I_X0_useHands_27 (by decide)
      have e : i = i_15 := zofn ei_15 (by omega) (by omega)
      subst e
      replace H : zE none d zm_X0_useHands 2 [.ref k, .int x, .int (Int32.ofNat (i + 1))] [] (zup m (k + 3 + i) 3 (zbt x i)) r h' := by
        rw [← zofn_s]
        exact H
      obtain ⟨m1, g1, g2, g3, g4⟩ := ih (i + 1) d r h' _ (by omega) (by rw [zup_n (by omega)]; exact hc) H
      refine ⟨m1, g1, g2, fun i' h1 h2 => ?_, fun a b hab => ?_⟩
      · by_cases e : i' = i
        · subst e
          rw [g4 _ _ (by omega), zup_s]
        · exact g3 i' (by omega) h2
      · rw [g4 a b (by omega), zup_n (by omega)]
theorem t_useH {d : Nat} {m : zM} {r : Option Value} {h' : zHp} {k c : Nat} {x : Int32} {g : Nat → Int32} (hk : zlk6 k) (hL : LV m k c g) (H : zE none d zm_X0_useHands 0 [.ref k, .int x, .null] [] m r h') : ∃ m1, r = none ∧ h' = zhp m1 ∧ LV m1 k c (gset g 15 x) ∧ ∀ a b, ¬ (k ≤ a ∧ a ≤ k + 7) → m1 a b = m a b := by
  obtain ⟨l1, l2, l3, l4, l5, a, l6, l7, l8, l9⟩ := hL
  replace H := i_icst (x := 0) (q := 1) H I_X0_useHands_0 (by decide) rfl
  replace H := i_isn (q := 2) H I_X0_useHands_1 rfl rfl
  obtain ⟨m1, g1, g2, g3, g4⟩ := uh_lp2 hk l2 c 0 d r h' m (by omega) l1 H
  refine ⟨m1, g1, g2, ⟨by rw [g4 _ _ (by omega)]; exact l1, l2, fun i hi => ⟨?_, ?_, ?_, ?_⟩, by rw [g4 _ _ (by omega), gset_n (by omega)]; exact l4, by rw [g4 _ _ (by omega), gset_n (by omega)]; exact l5, a, l6, by rw [gset_n (by omega)]; exact l7, by rw [g4 _ _ (by omega)]; exact l8, fun i hi => by rw [g4 _ _ (by omega), gset_n (by omega)]; exact l9 i hi⟩, fun a b hab => g4 a b (by omega)⟩
  · rw [g4 _ _ (by omega), gset_n (by omega)]; exact (l3 i hi).1
  · rw [g4 _ _ (by omega), gset_n (by omega)]; exact (l3 i hi).2.1
  · rw [g4 _ _ (by omega), gset_n (by omega)]; exact (l3 i hi).2.2.1
  · rw [g3 i (by omega) hi, gset_s]; rfl
theorem ha_7 {c : Nat} {g : Nat → Int32} {w : Int32} (hg : gok g c) : ∀ (j i : Nat) (b mo : Int32) (d : Nat) (r : Option Value) (h' : zHp) (m : zM), i + j = 2 ^ c → LV m 11 c g → zE none d zm_X7_hands 18 [.ref 0, .int w, .int b, .int mo, .int (Int32.ofNat i), .null] [] m r h' → r = some (.int (if w = 0 then (gBs (gHf c g) Int32.ofNat j i b mo).1 else (gBs (gHf c g) Int32.ofNat j i b mo).2)) := by
  intro j
  induction j with
  | zero =>
    intro i b mo d r h' m hj hL H
    have hL0 := hL
    obtain ⟨l1, l2, l3, l4, l5, a, l6, l7, l8, l9⟩ := hL
    obtain ⟨e1, e2, e3⟩ := zsh_c c l2
    replace H := i_il (q := 20) H I_X7_hands_18 rfl rfl
    replace H := i_icst (x := 1) (q := 21) H I_X7_hands_20 (by decide) rfl
    replace H := i_aln (q := 22) H I_X7_hands_21 rfl rfl
    replace H := i_gfr (q := 25) H I_X7_hands_22 G_7_19 cn_X7_hands LY_0 rfl rfl
    replace H := i_gfi (q := 28) H I_X7_hands_25 G_7_90 cn_X7_hands LY_11 rfl rfl
    replace H := i_ishl (q := 29) H I_X7_hands_28 rfl
    have W := i_ic_ge (t := 87) (q := 32) H I_X7_hands_29 (by decide) rfl
    clear H
    rcases W with ⟨c_29, H⟩ | ⟨c_29, H⟩
    · skip
      replace H := i_iln (q := 88) H I_X7_hands_87 rfl rfl
      have W := i_if_ne (t := 95) (q := 91) H I_X7_hands_88 (by decide) rfl
      clear H
      rcases W with ⟨c_88, H⟩ | ⟨c_88, H⟩
      · skip
        replace H := i_iln (q := 96) H I_X7_hands_95 rfl rfl
        obtain ⟨hr, hh⟩ := i_ir H I_X7_hands_96
        exact hr.trans (by rw [gBs, if_neg c_88])
      · skip
        replace H := i_iln (q := 92) H I_X7_hands_91 rfl rfl
        replace H := i_goto (q := 96) H I_X7_hands_92 (by decide)
        obtain ⟨hr, hh⟩ := i_ir H I_X7_hands_96
        exact hr.trans (by rw [gBs, if_pos c_88])
    · exfalso
      rw [l1, e1] at c_29
      exact absurd ((zofn_lt (by omega) (by omega)).mp c_29) (by omega)
  | succ j ih =>
    intro i b mo d r h' m hj hL H
    have hL0 := hL
    obtain ⟨l1, l2, l3, l4, l5, a, l6, l7, l8, l9⟩ := hL
    obtain ⟨e1, e2, e3⟩ := zsh_c c l2
    replace H := i_il (q := 20) H I_X7_hands_18 rfl rfl
    replace H := i_icst (x := 1) (q := 21) H I_X7_hands_20 (by decide) rfl
    replace H := i_aln (q := 22) H I_X7_hands_21 rfl rfl
    replace H := i_gfr (q := 25) H I_X7_hands_22 G_7_19 cn_X7_hands LY_0 rfl rfl
    replace H := i_gfi (q := 28) H I_X7_hands_25 G_7_90 cn_X7_hands LY_11 rfl rfl
    replace H := i_ishl (q := 29) H I_X7_hands_28 rfl
    have W := i_ic_ge (t := 87) (q := 32) H I_X7_hands_29 (by decide) rfl
    clear H
    rcases W with ⟨c_29, H⟩ | ⟨c_29, H⟩
    · exfalso
      rw [l1, e1] at c_29
      exact c_29 ((zofn_lt (by omega) (by omega)).mpr (by omega))
    · skip
      replace H := i_aln (q := 33) H I_X7_hands_32 rfl rfl
      replace H := i_gfr (q := 36) H I_X7_hands_33 G_7_26 cn_X7_hands LY_0 rfl rfl
      replace H := i_gfr (q := 39) H I_X7_hands_36 G_7_173 cn_X7_hands LY_19 rfl rfl
      replace H := i_aln (q := 40) H I_X7_hands_39 rfl rfl
      replace H := i_gfr (q := 43) H I_X7_hands_40 G_7_19 cn_X7_hands LY_0 rfl rfl
      have W := i_cv1 1 (q := 46) H I_X7_hands_43 K_7_77 Zm_2 rfl rfl
      clear H
      obtain ⟨r1, h1, Hc, K1, K2⟩ := W
      obtain ⟨M_43, e1, e2, F_43⟩ := t_become lkk_20 lkk_11 (by omega) l1 l2 l8 l6 Hc
      have H := K2 _ e1 e2
      clear e1 e2 Hc K1 K2
      replace H := i_aln (q := 47) H I_X7_hands_46 rfl rfl
      replace H := i_gfr (q := 50) H I_X7_hands_47 G_7_26 cn_X7_hands LY_0 rfl rfl
      replace H := i_gfr (q := 53) H I_X7_hands_50 G_7_173 cn_X7_hands LY_19 rfl rfl
      replace H := i_il (q := 55) H I_X7_hands_53 rfl rfl
      have W := i_cv1 1 (q := 58) H I_X7_hands_55 K_7_200 Zm_7 rfl rfl
      clear H
      obtain ⟨r1, h1, Hc, K1, K2⟩ := W
      obtain ⟨M_55, e1, e2, F_55⟩ := t_useH lkk_20 (LV_b hL0 l8 l6 F_43) Hc
      have H := K2 _ e1 e2
      clear e1 e2 Hc K1 K2
      replace H := i_aln (q := 59) H I_X7_hands_58 rfl rfl
      replace H := i_gfr (q := 62) H I_X7_hands_59 G_7_26 cn_X7_hands LY_0 rfl rfl
      replace H := i_bip (x := 31) (q := 64) H I_X7_hands_62 (by decide) rfl
      have W := i_cv1 2 (q := 67) H I_X7_hands_64 K_7_179 Zm_44 rfl rfl
      clear H
      obtain ⟨r1, h1, Hc, K1, K2⟩ := W
      obtain ⟨M_64, e1, e2, F_64⟩ := t_play31 F_55.1 (gok_s hg (by omega) (by omega)) Hc
      have H := K1 _ _ e1 e2
      clear e1 e2 Hc K1 K2
      replace H := i_is (q := 69) H I_X7_hands_67 rfl rfl
      replace H := i_il (q := 71) H I_X7_hands_69 rfl rfl
      replace H := i_iln (q := 72) H I_X7_hands_71 rfl rfl
      have W := i_ic_le (t := 81) (q := 75) H I_X7_hands_72 (by decide) rfl
      clear H
      rcases W with ⟨c_72, H⟩ | ⟨c_72, H⟩
      · skip
        replace H := i_inc (q := 84) H I_X7_hands_81 rfl rfl rfl
        replace H := i_goto (q := 18) H I_X7_hands_84 (by decide)
        have c72 : ¬ mo < gHf c g i := c_72
        replace H := i_w [true, true, true, true, true, false] H
        replace H : zE none d zm_X7_hands 18 [.ref 0, .int w, .int b, .int mo, .int (Int32.ofNat (i + 1)), .null] [] M_64 r h' := by
          rw [← zofn_s]
          exact H
        rw [gBs, if_neg c72]
        exact ih (i + 1) b mo d r h' M_64 (by omega) (LV_f hL0 (fun a b h1 h2 => (F_64.2 a b (by omega)).trans ((F_55.2 a b (by omega)).trans (F_43.2.2.2.2.2.2 a b (by omega))))) H
      · skip
        replace H := i_il (q := 77) H I_X7_hands_75 rfl rfl
        replace H := i_isn (q := 78) H I_X7_hands_77 rfl rfl
        replace H := i_il (q := 80) H I_X7_hands_78 rfl rfl
        replace H := i_isn (q := 81) H I_X7_hands_80 rfl rfl
        replace H := i_inc (q := 84) H I_X7_hands_81 rfl rfl rfl
        replace H := i_goto (q := 18) H I_X7_hands_84 (by decide)
        have c72 :  mo < gHf c g i := c_72
        replace H := i_w [true, true, true, true, true, false] H
        replace H : zE none d zm_X7_hands 18 [.ref 0, .int w, .int (Int32.ofNat i), .int (gHf c g i), .int (Int32.ofNat (i + 1)), .null] [] M_64 r h' := by
          rw [← zofn_s]
          exact H
        rw [gBs, if_pos c72]
        exact ih (i + 1) (Int32.ofNat i) (gHf c g i) d r h' M_64 (by omega) (LV_f hL0 (fun a b h1 h2 => (F_64.2 a b (by omega)).trans ((F_55.2 a b (by omega)).trans (F_43.2.2.2.2.2.2 a b (by omega))))) H
theorem t_X7_hands {d : Nat} {m : zM} {r : Option Value} {h' : zHp} {w : Int32} {c : Nat} {g : Nat → Int32} (hL : LV m 11 c g) (hg : gok g c) (H : zE none d zm_X7_hands 0 [.ref 0, .int w, .null, .null, .null, .null] [] m r h') : r = some (.int (gHands c g w)) := by
  replace H := i_iln (q := 1) H I_X7_hands_0 rfl rfl
  have W := i_if_lt (t := 9) (q := 4) H I_X7_hands_1 (by decide) rfl
  clear H
  rcases W with ⟨c_1, H⟩ | ⟨c_1, H⟩
  · skip
    replace H := i_icst (x := (-1)) (q := 10) H I_X7_hands_9 (by decide) rfl
    obtain ⟨hr, hh⟩ := i_ir H I_X7_hands_10
    exact hr.trans (by rw [gHands, if_neg (fun q => q.1 c_1)])
  · skip
    replace H := i_iln (q := 5) H I_X7_hands_4 rfl rfl
    replace H := i_icst (x := 1) (q := 6) H I_X7_hands_5 (by decide) rfl
    have W := i_ic_le (t := 11) (q := 9) H I_X7_hands_6 (by decide) rfl
    clear H
    rcases W with ⟨c_6, H⟩ | ⟨c_6, H⟩
    · skip
      replace H := i_icst (x := 0) (q := 12) H I_X7_hands_11 (by decide) rfl
      replace H := i_isn (q := 13) H I_X7_hands_12 rfl rfl
      replace H := i_icst (x := (-1)) (q := 14) H I_X7_hands_13 (by decide) rfl
      replace H := i_isn (q := 15) H I_X7_hands_14 rfl rfl
      replace H := i_icst (x := 0) (q := 16) H I_X7_hands_15 (by decide) rfl
      replace H := i_is (q := 18) H I_X7_hands_16 rfl rfl
      rw [gHands, if_pos ⟨c_1, c_6⟩]
      exact ha_7 hg (2 ^ c) 0 0 (-1) d r h' m (by omega) hL H
    · skip
      replace H := i_icst (x := (-1)) (q := 10) H I_X7_hands_9 (by decide) rfl
      obtain ⟨hr, hh⟩ := i_ir H I_X7_hands_10
      exact hr.trans (by rw [gHands, if_neg (fun q => q.2 c_6)])
theorem ha_8 {c a : Nat} {g : Nat → Int32} (hg : gok g c) (hpl : gpl g) (ha : g 26 = Int32.ofNat a) (ha8 : a ≤ 8) {w : Int32} : ∀ (j i : Nat) (b mo : Int32) (d : Nat) (r : Option Value) (h' : zHp) (m : zM), i + j = 2 ^ c → PG m 0 g → m 71 2 = Int32.ofNat c → zMk m → zE none d zm_X8_hands 19 [.ref 71, .int w, .int mo, .int b, .int (Int32.ofNat i)] [] m r h' → r = some (.int (if w = 0 then (gBs (gHf c g) Int32.ofNat j i b mo).1 else (gBs (gHf c g) Int32.ofNat j i b mo).2)) := by
  intro j
  induction j with
  | zero =>
    intro i b mo d r h' m hj hP hc hM H
    obtain ⟨e1, e2, e3⟩ := zsh_c c hg.1
    replace H := i_il (q := 21) H I_X8_hands_19 rfl rfl
    replace H := i_aln (q := 22) H I_X8_hands_21 rfl rfl
    have W := i_cv0 0 (q := 25) H I_X8_hands_22 K_8_167 Zm_139 rfl rfl
    clear H
    obtain ⟨r1, h1, Hc, K1, K2⟩ := W
    obtain ⟨e1, e2⟩ := t_X8_all Hc
    have H := K1 _ _ e1 e2
    clear e1 e2 Hc K1 K2
    have W := i_ic_gt (t := 87) (q := 28) H I_X8_hands_25 (by decide) rfl
    clear H
    rcases W with ⟨c_25, H⟩ | ⟨c_25, H⟩
    · skip
      replace H := i_iln (q := 88) H I_X8_hands_87 rfl rfl
      have W := i_if_ne (t := 95) (q := 91) H I_X8_hands_88 (by decide) rfl
      clear H
      rcases W with ⟨c_88, H⟩ | ⟨c_88, H⟩
      · skip
        replace H := i_iln (q := 96) H I_X8_hands_95 rfl rfl
        obtain ⟨hr, hh⟩ := i_ir H I_X8_hands_96
        exact hr.trans (by rw [gBs, if_neg c_88])
      · skip
        replace H := i_iln (q := 92) H I_X8_hands_91 rfl rfl
        replace H := i_goto (q := 96) H I_X8_hands_92 (by decide)
        obtain ⟨hr, hh⟩ := i_ir H I_X8_hands_96
        exact hr.trans (by rw [gBs, if_pos c_88])
    · exfalso
      rw [hc, e1] at c_25
      rw [Int32.lt_iff_toInt_lt, zofn_m1 (by omega), zofn_t (by omega)] at c_25
      omega
  | succ j ih =>
    intro i b mo d r h' m hj hP hc hM H
    obtain ⟨e1, e2, e3⟩ := zsh_c c hg.1
    replace H := i_il (q := 21) H I_X8_hands_19 rfl rfl
    replace H := i_aln (q := 22) H I_X8_hands_21 rfl rfl
    have W := i_cv0 0 (q := 25) H I_X8_hands_22 K_8_167 Zm_139 rfl rfl
    clear H
    obtain ⟨r1, h1, Hc, K1, K2⟩ := W
    obtain ⟨e1, e2⟩ := t_X8_all Hc
    have H := K1 _ _ e1 e2
    clear e1 e2 Hc K1 K2
    have W := i_ic_gt (t := 87) (q := 28) H I_X8_hands_25 (by decide) rfl
    clear H
    rcases W with ⟨c_25, H⟩ | ⟨c_25, H⟩
    · exfalso
      rw [hc, e1] at c_25
      rw [Int32.lt_iff_toInt_lt, zofn_m1 (by omega), zofn_t (by omega)] at c_25
      omega
    · skip
      replace H := i_aln (q := 29) H I_X8_hands_28 rfl rfl
      replace H := i_icst (x := 0) (q := 30) H I_X8_hands_29 (by decide) rfl
      replace H := i_bip (x := 108) (q := 32) H I_X8_hands_30 (by decide) rfl
      have W := i_cv2 1 (q := 35) H I_X8_hands_32 K_8_188 Zm_147 rfl rfl
      clear H
      obtain ⟨r1, h1, Hc, K1, K2⟩ := W
      obtain ⟨M_32, e1, e2, F_32⟩ := t_X8_copies (f := 0) (t := 108) rfl rfl (by omega) (by omega) (by omega) Hc
      have H := K2 _ e1 e2
      clear e1 e2 Hc K1 K2
      replace H := i_aln (q := 36) H I_X8_hands_35 rfl rfl
      replace H := i_gfr (q := 39) H I_X8_hands_36 G_8_7 cn_X8_hands LY_71 rfl rfl
      replace H := i_bip (x := 123) (q := 41) H I_X8_hands_39 (by decide) rfl
      replace H := i_il (q := 43) H I_X8_hands_41 rfl rfl
      have W := i_iast (q := 44) H I_X8_hands_43 LY_72 rfl
      clear H
      obtain ⟨i_43, bi_43, ei_43, H⟩ := W
      replace H := i_aln (q := 45) H I_X8_hands_44 rfl rfl
      replace H := i_icst (x := 0) (q := 46) H I_X8_hands_45 (by decide) rfl
      have W := i_cv1 2 (q := 49) H I_X8_hands_46 K_8_192 Zm_148 rfl rfl
      clear H
      obtain ⟨r1, h1, Hc, K1, K2⟩ := W
      have e43 : i_43 = 108 + 15 := (zofn (i := 123) ei_43 (by decide) (by omega)).symm
      subst e43
      obtain ⟨M_46, e1, e2, F_46⟩ := t_goes0 (PG_up (PG_cp hP F_32) (by omega)) (gok_s hg (by omega) (by omega)) ((gset_n (by omega)).trans ha) ha8 (gpl_s hpl (by omega)) ((zup_n (by omega)).trans ((F_32.2 71 2 (by omega)).trans hc)) (zMk_f hM (fun b => (zup_n (by omega)).trans (F_32.2 73 b (by omega)))) Hc
      have H := K2 _ e1 e2
      clear e1 e2 Hc K1 K2
      replace H := i_aln (q := 50) H I_X8_hands_49 rfl rfl
      replace H := i_gfi (q := 53) H I_X8_hands_50 G_8_179 cn_X8_hands LY_71 rfl rfl
      replace H := i_iln (q := 54) H I_X8_hands_53 rfl rfl
      have W := i_ic_le (t := 62) (q := 57) H I_X8_hands_54 (by decide) rfl
      clear H
      rcases W with ⟨c_54, H⟩ | ⟨c_54, H⟩
      · skip
        replace H := i_iln (q := 63) H I_X8_hands_62 rfl rfl
        replace H := i_isn (q := 64) H I_X8_hands_63 rfl rfl
        replace H := i_aln (q := 65) H I_X8_hands_64 rfl rfl
        replace H := i_gfi (q := 68) H I_X8_hands_65 G_8_179 cn_X8_hands LY_71 rfl rfl
        replace H := i_iln (q := 69) H I_X8_hands_68 rfl rfl
        have W := i_ic_le (t := 79) (q := 72) H I_X8_hands_69 (by decide) rfl
        clear H
        rcases W with ⟨c_69, H⟩ | ⟨c_69, H⟩
        · skip
          replace H := i_iln (q := 80) H I_X8_hands_79 rfl rfl
          replace H := i_isn (q := 81) H I_X8_hands_80 rfl rfl
          replace H := i_inc (q := 84) H I_X8_hands_81 rfl rfl rfl
          replace H := i_goto (q := 19) H I_X8_hands_84 (by decide)
          obtain ⟨P1, P2, P3, P4, P5⟩ := F_46.1
          rw [P2] at c_54
          have c54 : ¬ mo < gHf c g i := c_54
          replace H : zE none d zm_X8_hands 19 [.ref 71, .int w, .int mo, .int b, .int (Int32.ofNat (i + 1))] [] M_46 r h' := by
            rw [← zofn_s]
            exact H
          rw [gBs, if_neg c54]
          exact ih (i + 1) b mo d r h' M_46 (by omega) ⟨hP.1, fun j hj => ((F_46.2 72 (0 + j) (by omega) (by omega) (by omega)).trans ((zup_n (by omega)).trans (F_32.2 72 (0 + j) (by omega)))).trans (hP.2 j hj)⟩ (((F_46.2 71 2 (by omega) (by omega) (by omega)).trans ((zup_n (by omega)).trans (F_32.2 71 2 (by omega)))).trans hc) (zMk_f hM (fun b => (F_46.2 73 b (by omega) (by omega) (by omega)).trans ((zup_n (by omega)).trans (F_32.2 73 b (by omega))))) H
        · skip
          replace H := i_aln (q := 73) H I_X8_hands_72 rfl rfl
          replace H := i_gfi (q := 76) H I_X8_hands_73 G_8_179 cn_X8_hands LY_71 rfl rfl
          replace H := i_goto (q := 80) H I_X8_hands_76 (by decide)
          replace H := i_isn (q := 81) H I_X8_hands_80 rfl rfl
          replace H := i_inc (q := 84) H I_X8_hands_81 rfl rfl rfl
          replace H := i_goto (q := 19) H I_X8_hands_84 (by decide)
          exact absurd c_69 c_54
      · skip
        replace H := i_il (q := 59) H I_X8_hands_57 rfl rfl
        replace H := i_goto (q := 63) H I_X8_hands_59 (by decide)
        replace H := i_isn (q := 64) H I_X8_hands_63 rfl rfl
        replace H := i_aln (q := 65) H I_X8_hands_64 rfl rfl
        replace H := i_gfi (q := 68) H I_X8_hands_65 G_8_179 cn_X8_hands LY_71 rfl rfl
        replace H := i_iln (q := 69) H I_X8_hands_68 rfl rfl
        have W := i_ic_le (t := 79) (q := 72) H I_X8_hands_69 (by decide) rfl
        clear H
        rcases W with ⟨c_69, H⟩ | ⟨c_69, H⟩
        · skip
          replace H := i_iln (q := 80) H I_X8_hands_79 rfl rfl
          replace H := i_isn (q := 81) H I_X8_hands_80 rfl rfl
          replace H := i_inc (q := 84) H I_X8_hands_81 rfl rfl rfl
          replace H := i_goto (q := 19) H I_X8_hands_84 (by decide)
          exact absurd c_54 c_69
        · skip
          replace H := i_aln (q := 73) H I_X8_hands_72 rfl rfl
          replace H := i_gfi (q := 76) H I_X8_hands_73 G_8_179 cn_X8_hands LY_71 rfl rfl
          replace H := i_goto (q := 80) H I_X8_hands_76 (by decide)
          replace H := i_isn (q := 81) H I_X8_hands_80 rfl rfl
          replace H := i_inc (q := 84) H I_X8_hands_81 rfl rfl rfl
          replace H := i_goto (q := 19) H I_X8_hands_84 (by decide)
          obtain ⟨P1, P2, P3, P4, P5⟩ := F_46.1
          rw [P2] at c_54
          have c54 :  mo < gHf c g i := c_54
          replace H : zE none d zm_X8_hands 19 [.ref 71, .int w, .int (gHf c g i), .int (Int32.ofNat i), .int (Int32.ofNat (i + 1))] [] M_46 r h' := by
            rw [← zofn_s]
            rw [P2] at H
            exact H
          rw [gBs, if_pos c54]
          exact ih (i + 1) (Int32.ofNat i) (gHf c g i) d r h' M_46 (by omega) ⟨hP.1, fun j hj => ((F_46.2 72 (0 + j) (by omega) (by omega) (by omega)).trans ((zup_n (by omega)).trans (F_32.2 72 (0 + j) (by omega)))).trans (hP.2 j hj)⟩ (((F_46.2 71 2 (by omega) (by omega) (by omega)).trans ((zup_n (by omega)).trans (F_32.2 71 2 (by omega)))).trans hc) (zMk_f hM (fun b => (F_46.2 73 b (by omega) (by omega) (by omega)).trans ((zup_n (by omega)).trans (F_32.2 73 b (by omega))))) H
theorem t_X8_hands {d : Nat} {m : zM} {r : Option Value} {h' : zHp} {w : Int32} {c a : Nat} {g : Nat → Int32} (hP : PG m 0 g) (hg : gok g c) (hpl : gpl g) (ha : g 26 = Int32.ofNat a) (ha8 : a ≤ 8) (hc : m 71 2 = Int32.ofNat c) (hM : zMk m) (H : zE none d zm_X8_hands 0 [.ref 71, .int w, .null, .null, .null] [] m r h') : r = some (.int (gHands c g w)) := by
  replace H := i_iln (q := 1) H I_X8_hands_0 rfl rfl
  replace H := i_i2l (q := 2) H I_X8_hands_1 rfl
  replace H := i_lcst (x := 0) (q := 3) H I_X8_hands_2 (by decide) rfl
  replace H := i_lcst (x := 1) (q := 4) H I_X8_hands_3 (by decide) rfl
  replace H := i_in (q := 7) H I_X8_hands_4 K_8_55 rfl
  have W := i_if_ne (t := 12) (q := 10) H I_X8_hands_7 (by decide) rfl
  clear H
  rcases W with ⟨c_7, H⟩ | ⟨c_7, H⟩
  · skip
    replace H := i_icst (x := (-1)) (q := 13) H I_X8_hands_12 (by decide) rfl
    replace H := i_isn (q := 14) H I_X8_hands_13 rfl rfl
    replace H := i_icst (x := 0) (q := 15) H I_X8_hands_14 (by decide) rfl
    replace H := i_isn (q := 16) H I_X8_hands_15 rfl rfl
    replace H := i_icst (x := 0) (q := 17) H I_X8_hands_16 (by decide) rfl
    replace H := i_is (q := 19) H I_X8_hands_17 rfl rfl
    rw [zin_bt (lo := 0) (hi := 1) rfl rfl] at c_7
    rw [gHands, if_pos (zif1 c_7)]
    exact ha_8 hg hpl ha ha8 (2 ^ c) 0 0 (-1) d r h' m (by omega) hP hc hM H
  · skip
    replace H := i_icst (x := (-1)) (q := 11) H I_X8_hands_10 (by decide) rfl
    obtain ⟨hr, hh⟩ := i_ir H I_X8_hands_11
    rw [zin_bt (lo := 0) (hi := 1) rfl rfl] at c_7
    exact hr.trans (by rw [gHands, if_neg (zif0 c_7)])
theorem pd_hands {m : zM} {r : Option Value} {h' : zHp} {x0 : Int32} (ht : zTy m) (hR : RF m) (H : zEv none 19 zm_X7_hands (0, lv_args 0 [.ref 0, .int x0], [], zhp m) r h') : ∃ m1 v, r = some (.int v) ∧ h' = zhp m1 ∧ zTy m1 ∧ ∀ r2 h2, zEv none 19 zm_X8_hands (0, lv_args 0 [.ref 71, .int x0], [], zhp m1) r2 h2 → ∃ m2 v2, r2 = some (.int v2) ∧ h2 = zhp m2 ∧ zTy m2 ∧ RF m2 ∧ v = v2 := by
  have hR0 := hR
  obtain ⟨⟨_, hM, _, _, c, c1, ⟨hL, hb⟩, _⟩, _⟩ := hR
  have hg := gok_11 ht hL
  have hpl := gpl_0 ht
  obtain ⟨a, a6, a7, _⟩ := hL.2.2.2.2.2
  obtain ⟨m1, v, a1, a2, a3, a4⟩ := e_X7_hands ht H
  refine ⟨m1, v, a1, a2, a3, fun r2 h2 H2 => ?_⟩
  obtain ⟨m2, v2, b1, b2, b3, b4⟩ := e_X8_hands a3 H2
  refine ⟨m2, v2, b1, b2, b3, RF_f (RF_f hR0 a4 (by decide +kernel)) b4 (by decide +kernel), ?_⟩
  have hP1 : PG m1 0 (pgf m 0) := ⟨by omega, fun j hj => a4 72 (0 + j) (zpl_r LY_72 (by omega)) (ymd_c (by decide +kernel) _)⟩
  have hM1 : zMk m1 := ⟨(a4 73 0 ⟨_, LY_73, rfl⟩ (by decide +kernel)).trans hM.1, (a4 73 1 ⟨_, LY_73, rfl⟩ (by decide +kernel)).trans hM.2.1, (a4 73 2 ⟨_, LY_73, rfl⟩ (by decide +kernel)).trans hM.2.2.1, (a4 73 3 ⟨_, LY_73, rfl⟩ (by decide +kernel)).trans hM.2.2.2⟩
  have hc1 : m1 71 2 = Int32.ofNat c := (a4 71 2 ⟨_, LY_71, rfl⟩ (by decide +kernel)).trans c1
  have k1 := t_X7_hands hL hg (zE_of 4 rfl H)
  have k2 := t_X8_hands hP1 hg hpl a7 a6 hc1 hM1 (zE_of 3 rfl H2)
  rw [a1] at k1
  rw [b1] at k2
  cases k1
  cases k2
  rfl
end
