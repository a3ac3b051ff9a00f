/-! slack, act, plan, cut, forget -/
theorem It_X0_has : zm_X0_has.2.2.2.2.2 = zt_X0_has := by
  unfold zm_X0_has
  rfl
theorem It_X0_hasAll : zm_X0_hasAll.2.2.2.2.2 = zt_X0_hasAll := by
  unfold zm_X0_hasAll
  rfl
theorem It_X7_act : zm_X7_act.2.2.2.2.2 = zt_X7_act := by
  unfold zm_X7_act
  rfl
theorem It_X7_cut : zm_X7_cut.2.2.2.2.2 = zt_X7_cut := by
  unfold zm_X7_cut
  rfl
theorem It_X7_forget : zm_X7_forget.2.2.2.2.2 = zt_X7_forget := by
  unfold zm_X7_forget
  rfl
theorem It_X7_plan : zm_X7_plan.2.2.2.2.2 = zt_X7_plan := by
  unfold zm_X7_plan
  rfl
theorem It_X7_slack : zm_X7_slack.2.2.2.2.2 = zt_X7_slack := by
  unfold zm_X7_slack
  rfl
theorem It_X8_act : zm_X8_act.2.2.2.2.2 = zt_X8_act := by
  unfold zm_X8_act
  rfl
theorem It_X8_all : zm_X8_all.2.2.2.2.2 = zt_X8_all := by
  unfold zm_X8_all
  rfl
theorem It_X8_cut : zm_X8_cut.2.2.2.2.2 = zt_X8_cut := by
  unfold zm_X8_cut
  rfl
theorem It_X8_forget : zm_X8_forget.2.2.2.2.2 = zt_X8_forget := by
  unfold zm_X8_forget
  rfl
theorem It_X8_isOne : zm_X8_isOne.2.2.2.2.2 = zt_X8_isOne := by
  unfold zm_X8_isOne
  rfl
theorem It_X8_plan : zm_X8_plan.2.2.2.2.2 = zt_X8_plan := by
  unfold zm_X8_plan
  rfl
theorem It_X8_puts : zm_X8_puts.2.2.2.2.2 = zt_X8_puts := by
  unfold zm_X8_puts
  rfl
theorem It_X8_slack : zm_X8_slack.2.2.2.2.2 = zt_X8_slack := by
  unfold zm_X8_slack
  rfl
theorem I_X0_has_0 : zin zm_X0_has.2.2.2.2.2 0 = some (.iload_n 1, 1) := by rw [It_X0_has]; rfl
theorem I_X0_has_1 : zin zm_X0_has.2.2.2.2.2 1 = some (.ifCond .lt 15, 3) := by rw [It_X0_has]; rfl
theorem I_X0_has_4 : zin zm_X0_has.2.2.2.2.2 4 = some (.iload_n 1, 1) := by rw [It_X0_has]; rfl
theorem I_X0_has_5 : zin zm_X0_has.2.2.2.2.2 5 = some (.aload_n 0, 1) := by rw [It_X0_has]; rfl
theorem I_X0_has_6 : zin zm_X0_has.2.2.2.2.2 6 = some (.getfield 26, 3) := by rw [It_X0_has]; rfl
theorem I_X0_has_9 : zin zm_X0_has.2.2.2.2.2 9 = some (.if_icmp .ge 7, 3) := by rw [It_X0_has]; rfl
theorem I_X0_has_12 : zin zm_X0_has.2.2.2.2.2 12 = some (.iconst 1, 1) := by rw [It_X0_has]; rfl
theorem I_X0_has_13 : zin zm_X0_has.2.2.2.2.2 13 = some (.goto 4, 3) := by rw [It_X0_has]; rfl
theorem I_X0_has_16 : zin zm_X0_has.2.2.2.2.2 16 = some (.iconst 0, 1) := by rw [It_X0_has]; rfl
theorem I_X0_has_17 : zin zm_X0_has.2.2.2.2.2 17 = some (.ireturn, 1) := by rw [It_X0_has]; rfl
theorem I_X0_hasAll_0 : zin zm_X0_hasAll.2.2.2.2.2 0 = some (.iload_n 1, 1) := by rw [It_X0_hasAll]; rfl
theorem I_X0_hasAll_1 : zin zm_X0_hasAll.2.2.2.2.2 1 = some (.ifCond .le 17, 3) := by rw [It_X0_hasAll]; rfl
theorem I_X0_hasAll_4 : zin zm_X0_hasAll.2.2.2.2.2 4 = some (.iload_n 1, 1) := by rw [It_X0_hasAll]; rfl
theorem I_X0_hasAll_5 : zin zm_X0_hasAll.2.2.2.2.2 5 = some (.iconst 1, 1) := by rw [It_X0_hasAll]; rfl
theorem I_X0_hasAll_6 : zin zm_X0_hasAll.2.2.2.2.2 6 = some (.aload_n 0, 1) := by rw [It_X0_hasAll]; rfl
theorem I_X0_hasAll_7 : zin zm_X0_hasAll.2.2.2.2.2 7 = some (.getfield 26, 3) := by rw [It_X0_hasAll]; rfl
theorem I_X0_hasAll_10 : zin zm_X0_hasAll.2.2.2.2.2 10 = some (.ishl, 1) := by rw [It_X0_hasAll]; rfl
theorem I_X0_hasAll_11 : zin zm_X0_hasAll.2.2.2.2.2 11 = some (.if_icmp .ge 7, 3) := by rw [It_X0_hasAll]; rfl
theorem I_X0_hasAll_14 : zin zm_X0_hasAll.2.2.2.2.2 14 = some (.iconst 1, 1) := by rw [It_X0_hasAll]; rfl
theorem I_X0_hasAll_15 : zin zm_X0_hasAll.2.2.2.2.2 15 = some (.goto 4, 3) := by rw [It_X0_hasAll]; rfl
theorem I_X0_hasAll_18 : zin zm_X0_hasAll.2.2.2.2.2 18 = some (.iconst 0, 1) := by rw [It_X0_hasAll]; rfl
theorem I_X0_hasAll_19 : zin zm_X0_hasAll.2.2.2.2.2 19 = some (.ireturn, 1) := by rw [It_X0_hasAll]; rfl
theorem I_X7_act_0 : zin zm_X7_act.2.2.2.2.2 0 = some (.iload_n 1, 1) := by rw [It_X7_act]; rfl
theorem I_X7_act_1 : zin zm_X7_act.2.2.2.2.2 1 = some (.ifCond .lt 14, 3) := by rw [It_X7_act]; rfl
theorem I_X7_act_4 : zin zm_X7_act.2.2.2.2.2 4 = some (.iload_n 1, 1) := by rw [It_X7_act]; rfl
theorem I_X7_act_5 : zin zm_X7_act.2.2.2.2.2 5 = some (.aload_n 0, 1) := by rw [It_X7_act]; rfl
theorem I_X7_act_6 : zin zm_X7_act.2.2.2.2.2 6 = some (.getfield 19, 3) := by rw [It_X7_act]; rfl
theorem I_X7_act_9 : zin zm_X7_act.2.2.2.2.2 9 = some (.getfield 99, 3) := by rw [It_X7_act]; rfl
theorem I_X7_act_12 : zin zm_X7_act.2.2.2.2.2 12 = some (.if_icmp .lt 7, 3) := by rw [It_X7_act]; rfl
theorem I_X7_act_15 : zin zm_X7_act.2.2.2.2.2 15 = some (.iconst (-1), 1) := by rw [It_X7_act]; rfl
theorem I_X7_act_16 : zin zm_X7_act.2.2.2.2.2 16 = some (.goto 12, 3) := by rw [It_X7_act]; rfl
theorem I_X7_act_19 : zin zm_X7_act.2.2.2.2.2 19 = some (.aload_n 0, 1) := by rw [It_X7_act]; rfl
theorem I_X7_act_20 : zin zm_X7_act.2.2.2.2.2 20 = some (.getfield 19, 3) := by rw [It_X7_act]; rfl
theorem I_X7_act_23 : zin zm_X7_act.2.2.2.2.2 23 = some (.getfield 140, 3) := by rw [It_X7_act]; rfl
theorem I_X7_act_26 : zin zm_X7_act.2.2.2.2.2 26 = some (.iload_n 1, 1) := by rw [It_X7_act]; rfl
theorem I_X7_act_27 : zin zm_X7_act.2.2.2.2.2 27 = some (.iaload, 1) := by rw [It_X7_act]; rfl
theorem I_X7_act_28 : zin zm_X7_act.2.2.2.2.2 28 = some (.ireturn, 1) := by rw [It_X7_act]; rfl
theorem I_X7_cut_0 : zin zm_X7_cut.2.2.2.2.2 0 = some (.iload_n 1, 1) := by rw [It_X7_cut]; rfl
theorem I_X7_cut_1 : zin zm_X7_cut.2.2.2.2.2 1 = some (.ifCond .lt 14, 3) := by rw [It_X7_cut]; rfl
theorem I_X7_cut_4 : zin zm_X7_cut.2.2.2.2.2 4 = some (.iload_n 1, 1) := by rw [It_X7_cut]; rfl
theorem I_X7_cut_5 : zin zm_X7_cut.2.2.2.2.2 5 = some (.aload_n 0, 1) := by rw [It_X7_cut]; rfl
theorem I_X7_cut_6 : zin zm_X7_cut.2.2.2.2.2 6 = some (.getfield 19, 3) := by rw [It_X7_cut]; rfl
theorem I_X7_cut_9 : zin zm_X7_cut.2.2.2.2.2 9 = some (.getfield 99, 3) := by rw [It_X7_cut]; rfl
theorem I_X7_cut_12 : zin zm_X7_cut.2.2.2.2.2 12 = some (.if_icmp .le 5, 3) := by rw [It_X7_cut]; rfl
theorem I_X7_cut_15 : zin zm_X7_cut.2.2.2.2.2 15 = some (.iconst (-1), 1) := by rw [It_X7_cut]; rfl
theorem I_X7_cut_16 : zin zm_X7_cut.2.2.2.2.2 16 = some (.ireturn, 1) := by rw [It_X7_cut]; rfl
theorem I_X7_cut_17 : zin zm_X7_cut.2.2.2.2.2 17 = some (.aload_n 0, 1) := by rw [It_X7_cut]; rfl
theorem I_X7_cut_18 : zin zm_X7_cut.2.2.2.2.2 18 = some (.getfield 19, 3) := by rw [It_X7_cut]; rfl
theorem I_X7_cut_21 : zin zm_X7_cut.2.2.2.2.2 21 = some (.getfield 99, 3) := by rw [It_X7_cut]; rfl
theorem I_X7_cut_24 : zin zm_X7_cut.2.2.2.2.2 24 = some (.istore_n 2, 1) := by rw [It_X7_cut]; rfl
theorem I_X7_cut_25 : zin zm_X7_cut.2.2.2.2.2 25 = some (.aload_n 0, 1) := by rw [It_X7_cut]; rfl
theorem I_X7_cut_26 : zin zm_X7_cut.2.2.2.2.2 26 = some (.getfield 19, 3) := by rw [It_X7_cut]; rfl
theorem I_X7_cut_29 : zin zm_X7_cut.2.2.2.2.2 29 = some (.iload_n 1, 1) := by rw [It_X7_cut]; rfl
theorem I_X7_cut_30 : zin zm_X7_cut.2.2.2.2.2 30 = some (.putfield 99, 3) := by rw [It_X7_cut]; rfl
theorem I_X7_cut_33 : zin zm_X7_cut.2.2.2.2.2 33 = some (.iload_n 2, 1) := by rw [It_X7_cut]; rfl
theorem I_X7_cut_34 : zin zm_X7_cut.2.2.2.2.2 34 = some (.ireturn, 1) := by rw [It_X7_cut]; rfl
theorem I_X7_forget_0 : zin zm_X7_forget.2.2.2.2.2 0 = some (.iload_n 1, 1) := by rw [It_X7_forget]; rfl
theorem I_X7_forget_1 : zin zm_X7_forget.2.2.2.2.2 1 = some (.ifCond .lt 14, 3) := by rw [It_X7_forget]; rfl
theorem I_X7_forget_4 : zin zm_X7_forget.2.2.2.2.2 4 = some (.iload_n 1, 1) := by rw [It_X7_forget]; rfl
theorem I_X7_forget_5 : zin zm_X7_forget.2.2.2.2.2 5 = some (.aload_n 0, 1) := by rw [It_X7_forget]; rfl
theorem I_X7_forget_6 : zin zm_X7_forget.2.2.2.2.2 6 = some (.getfield 40, 3) := by rw [It_X7_forget]; rfl
theorem I_X7_forget_9 : zin zm_X7_forget.2.2.2.2.2 9 = some (.getfield 81, 3) := by rw [It_X7_forget]; rfl
theorem I_X7_forget_12 : zin zm_X7_forget.2.2.2.2.2 12 = some (.if_icmp .le 5, 3) := by rw [It_X7_forget]; rfl
theorem I_X7_forget_15 : zin zm_X7_forget.2.2.2.2.2 15 = some (.iconst (-1), 1) := by rw [It_X7_forget]; rfl
theorem I_X7_forget_16 : zin zm_X7_forget.2.2.2.2.2 16 = some (.ireturn, 1) := by rw [It_X7_forget]; rfl
theorem I_X7_forget_17 : zin zm_X7_forget.2.2.2.2.2 17 = some (.aload_n 0, 1) := by rw [It_X7_forget]; rfl
theorem I_X7_forget_18 : zin zm_X7_forget.2.2.2.2.2 18 = some (.getfield 40, 3) := by rw [It_X7_forget]; rfl
theorem I_X7_forget_21 : zin zm_X7_forget.2.2.2.2.2 21 = some (.getfield 81, 3) := by rw [It_X7_forget]; rfl
theorem I_X7_forget_24 : zin zm_X7_forget.2.2.2.2.2 24 = some (.istore_n 2, 1) := by rw [It_X7_forget]; rfl
theorem I_X7_forget_25 : zin zm_X7_forget.2.2.2.2.2 25 = some (.aload_n 0, 1) := by rw [It_X7_forget]; rfl
theorem I_X7_forget_26 : zin zm_X7_forget.2.2.2.2.2 26 = some (.getfield 40, 3) := by rw [It_X7_forget]; rfl
theorem I_X7_forget_29 : zin zm_X7_forget.2.2.2.2.2 29 = some (.iload_n 1, 1) := by rw [It_X7_forget]; rfl
theorem I_X7_forget_30 : zin zm_X7_forget.2.2.2.2.2 30 = some (.putfield 81, 3) := by rw [It_X7_forget]; rfl
theorem I_X7_forget_33 : zin zm_X7_forget.2.2.2.2.2 33 = some (.iload_n 2, 1) := by rw [It_X7_forget]; rfl
theorem I_X7_forget_34 : zin zm_X7_forget.2.2.2.2.2 34 = some (.ireturn, 1) := by rw [It_X7_forget]; rfl
theorem I_X7_plan_0 : zin zm_X7_plan.2.2.2.2.2 0 = some (.iload_n 1, 1) := by rw [It_X7_plan]; rfl
theorem I_X7_plan_1 : zin zm_X7_plan.2.2.2.2.2 1 = some (.ifCond .eq 16, 3) := by rw [It_X7_plan]; rfl
theorem I_X7_plan_4 : zin zm_X7_plan.2.2.2.2.2 4 = some (.aload_n 0, 1) := by rw [It_X7_plan]; rfl
theorem I_X7_plan_5 : zin zm_X7_plan.2.2.2.2.2 5 = some (.getfield 19, 3) := by rw [It_X7_plan]; rfl
theorem I_X7_plan_8 : zin zm_X7_plan.2.2.2.2.2 8 = some (.iload_n 1, 1) := by rw [It_X7_plan]; rfl
theorem I_X7_plan_9 : zin zm_X7_plan.2.2.2.2.2 9 = some (.invokevirtual 152, 3) := by rw [It_X7_plan]; rfl
theorem I_X7_plan_12 : zin zm_X7_plan.2.2.2.2.2 12 = some (.ifCond .ne 5, 3) := by rw [It_X7_plan]; rfl
theorem I_X7_plan_15 : zin zm_X7_plan.2.2.2.2.2 15 = some (.iconst (-1), 1) := by rw [It_X7_plan]; rfl
theorem I_X7_plan_16 : zin zm_X7_plan.2.2.2.2.2 16 = some (.ireturn, 1) := by rw [It_X7_plan]; rfl
theorem I_X7_plan_17 : zin zm_X7_plan.2.2.2.2.2 17 = some (.aload_n 0, 1) := by rw [It_X7_plan]; rfl
theorem I_X7_plan_18 : zin zm_X7_plan.2.2.2.2.2 18 = some (.getfield 19, 3) := by rw [It_X7_plan]; rfl
theorem I_X7_plan_21 : zin zm_X7_plan.2.2.2.2.2 21 = some (.getfield 99, 3) := by rw [It_X7_plan]; rfl
theorem I_X7_plan_24 : zin zm_X7_plan.2.2.2.2.2 24 = some (.bipush 8, 2) := by rw [It_X7_plan]; rfl
theorem I_X7_plan_26 : zin zm_X7_plan.2.2.2.2.2 26 = some (.if_icmp .lt 6, 3) := by rw [It_X7_plan]; rfl
theorem I_X7_plan_29 : zin zm_X7_plan.2.2.2.2.2 29 = some (.bipush (-3), 2) := by rw [It_X7_plan]; rfl
theorem I_X7_plan_31 : zin zm_X7_plan.2.2.2.2.2 31 = some (.ireturn, 1) := by rw [It_X7_plan]; rfl
theorem I_X7_plan_32 : zin zm_X7_plan.2.2.2.2.2 32 = some (.aload_n 0, 1) := by rw [It_X7_plan]; rfl
theorem I_X7_plan_33 : zin zm_X7_plan.2.2.2.2.2 33 = some (.getfield 19, 3) := by rw [It_X7_plan]; rfl
theorem I_X7_plan_36 : zin zm_X7_plan.2.2.2.2.2 36 = some (.getfield 140, 3) := by rw [It_X7_plan]; rfl
theorem I_X7_plan_39 : zin zm_X7_plan.2.2.2.2.2 39 = some (.aload_n 0, 1) := by rw [It_X7_plan]; rfl
theorem I_X7_plan_40 : zin zm_X7_plan.2.2.2.2.2 40 = some (.getfield 19, 3) := by rw [It_X7_plan]; rfl
theorem I_X7_plan_43 : zin zm_X7_plan.2.2.2.2.2 43 = some (.getfield 99, 3) := by rw [It_X7_plan]; rfl
theorem I_X7_plan_46 : zin zm_X7_plan.2.2.2.2.2 46 = some (.iload_n 1, 1) := by rw [It_X7_plan]; rfl
theorem I_X7_plan_47 : zin zm_X7_plan.2.2.2.2.2 47 = some (.iastore, 1) := by rw [It_X7_plan]; rfl
theorem I_X7_plan_48 : zin zm_X7_plan.2.2.2.2.2 48 = some (.aload_n 0, 1) := by rw [It_X7_plan]; rfl
theorem I_X7_plan_49 : zin zm_X7_plan.2.2.2.2.2 49 = some (.getfield 19, 3) := by rw [It_X7_plan]; rfl
theorem I_X7_plan_52 : zin zm_X7_plan.2.2.2.2.2 52 = some (.dup, 1) := by rw [It_X7_plan]; rfl
theorem I_X7_plan_53 : zin zm_X7_plan.2.2.2.2.2 53 = some (.getfield 99, 3) := by rw [It_X7_plan]; rfl
theorem I_X7_plan_56 : zin zm_X7_plan.2.2.2.2.2 56 = some (.iconst 1, 1) := by rw [It_X7_plan]; rfl
theorem I_X7_plan_57 : zin zm_X7_plan.2.2.2.2.2 57 = some (.iadd, 1) := by rw [It_X7_plan]; rfl
theorem I_X7_plan_58 : zin zm_X7_plan.2.2.2.2.2 58 = some (.putfield 99, 3) := by rw [It_X7_plan]; rfl
theorem I_X7_plan_61 : zin zm_X7_plan.2.2.2.2.2 61 = some (.aload_n 0, 1) := by rw [It_X7_plan]; rfl
theorem I_X7_plan_62 : zin zm_X7_plan.2.2.2.2.2 62 = some (.getfield 19, 3) := by rw [It_X7_plan]; rfl
theorem I_X7_plan_65 : zin zm_X7_plan.2.2.2.2.2 65 = some (.getfield 99, 3) := by rw [It_X7_plan]; rfl
theorem I_X7_plan_68 : zin zm_X7_plan.2.2.2.2.2 68 = some (.ireturn, 1) := by rw [It_X7_plan]; rfl
theorem I_X7_slack_0 : zin zm_X7_slack.2.2.2.2.2 0 = some (.iload_n 1, 1) := by rw [It_X7_slack]; rfl
theorem I_X7_slack_1 : zin zm_X7_slack.2.2.2.2.2 1 = some (.ifCond .lt 9, 3) := by rw [It_X7_slack]; rfl
theorem I_X7_slack_4 : zin zm_X7_slack.2.2.2.2.2 4 = some (.iload_n 1, 1) := by rw [It_X7_slack]; rfl
theorem I_X7_slack_5 : zin zm_X7_slack.2.2.2.2.2 5 = some (.bipush 9, 2) := by rw [It_X7_slack]; rfl
theorem I_X7_slack_7 : zin zm_X7_slack.2.2.2.2.2 7 = some (.if_icmp .le 5, 3) := by rw [It_X7_slack]; rfl
theorem I_X7_slack_10 : zin zm_X7_slack.2.2.2.2.2 10 = some (.iconst (-1), 1) := by rw [It_X7_slack]; rfl
theorem I_X7_slack_11 : zin zm_X7_slack.2.2.2.2.2 11 = some (.ireturn, 1) := by rw [It_X7_slack]; rfl
theorem I_X7_slack_12 : zin zm_X7_slack.2.2.2.2.2 12 = some (.aload_n 0, 1) := by rw [It_X7_slack]; rfl
theorem I_X7_slack_13 : zin zm_X7_slack.2.2.2.2.2 13 = some (.getfield 19, 3) := by rw [It_X7_slack]; rfl
theorem I_X7_slack_16 : zin zm_X7_slack.2.2.2.2.2 16 = some (.getfield 93, 3) := by rw [It_X7_slack]; rfl
theorem I_X7_slack_19 : zin zm_X7_slack.2.2.2.2.2 19 = some (.istore_n 2, 1) := by rw [It_X7_slack]; rfl
theorem I_X7_slack_20 : zin zm_X7_slack.2.2.2.2.2 20 = some (.aload_n 0, 1) := by rw [It_X7_slack]; rfl
theorem I_X7_slack_21 : zin zm_X7_slack.2.2.2.2.2 21 = some (.getfield 19, 3) := by rw [It_X7_slack]; rfl
theorem I_X7_slack_24 : zin zm_X7_slack.2.2.2.2.2 24 = some (.iload_n 1, 1) := by rw [It_X7_slack]; rfl
theorem I_X7_slack_25 : zin zm_X7_slack.2.2.2.2.2 25 = some (.putfield 93, 3) := by rw [It_X7_slack]; rfl
theorem I_X7_slack_28 : zin zm_X7_slack.2.2.2.2.2 28 = some (.iload_n 2, 1) := by rw [It_X7_slack]; rfl
theorem I_X7_slack_29 : zin zm_X7_slack.2.2.2.2.2 29 = some (.ireturn, 1) := by rw [It_X7_slack]; rfl
theorem I_X8_act_0 : zin zm_X8_act.2.2.2.2.2 0 = some (.iload_n 1, 1) := by rw [It_X8_act]; rfl
theorem I_X8_act_1 : zin zm_X8_act.2.2.2.2.2 1 = some (.i2l, 1) := by rw [It_X8_act]; rfl
theorem I_X8_act_2 : zin zm_X8_act.2.2.2.2.2 2 = some (.lconst 0, 1) := by rw [It_X8_act]; rfl
theorem I_X8_act_3 : zin zm_X8_act.2.2.2.2.2 3 = some (.aload_n 0, 1) := by rw [It_X8_act]; rfl
theorem I_X8_act_4 : zin zm_X8_act.2.2.2.2.2 4 = some (.getfield 7, 3) := by rw [It_X8_act]; rfl
theorem I_X8_act_7 : zin zm_X8_act.2.2.2.2.2 7 = some (.bipush 26, 2) := by rw [It_X8_act]; rfl
theorem I_X8_act_9 : zin zm_X8_act.2.2.2.2.2 9 = some (.iaload, 1) := by rw [It_X8_act]; rfl
theorem I_X8_act_10 : zin zm_X8_act.2.2.2.2.2 10 = some (.iconst 1, 1) := by rw [It_X8_act]; rfl
theorem I_X8_act_11 : zin zm_X8_act.2.2.2.2.2 11 = some (.isub, 1) := by rw [It_X8_act]; rfl
theorem I_X8_act_12 : zin zm_X8_act.2.2.2.2.2 12 = some (.i2l, 1) := by rw [It_X8_act]; rfl
theorem I_X8_act_13 : zin zm_X8_act.2.2.2.2.2 13 = some (.invokestatic 55, 3) := by rw [It_X8_act]; rfl
theorem I_X8_act_16 : zin zm_X8_act.2.2.2.2.2 16 = some (.ifCond .eq 15, 3) := by rw [It_X8_act]; rfl
theorem I_X8_act_19 : zin zm_X8_act.2.2.2.2.2 19 = some (.aload_n 0, 1) := by rw [It_X8_act]; rfl
theorem I_X8_act_20 : zin zm_X8_act.2.2.2.2.2 20 = some (.getfield 7, 3) := by rw [It_X8_act]; rfl
theorem I_X8_act_23 : zin zm_X8_act.2.2.2.2.2 23 = some (.bipush 18, 2) := by rw [It_X8_act]; rfl
theorem I_X8_act_25 : zin zm_X8_act.2.2.2.2.2 25 = some (.iload_n 1, 1) := by rw [It_X8_act]; rfl
theorem I_X8_act_26 : zin zm_X8_act.2.2.2.2.2 26 = some (.iadd, 1) := by rw [It_X8_act]; rfl
theorem I_X8_act_27 : zin zm_X8_act.2.2.2.2.2 27 = some (.iaload, 1) := by rw [It_X8_act]; rfl
theorem I_X8_act_28 : zin zm_X8_act.2.2.2.2.2 28 = some (.goto 4, 3) := by rw [It_X8_act]; rfl
theorem I_X8_act_31 : zin zm_X8_act.2.2.2.2.2 31 = some (.iconst (-1), 1) := by rw [It_X8_act]; rfl
theorem I_X8_act_32 : zin zm_X8_act.2.2.2.2.2 32 = some (.ireturn, 1) := by rw [It_X8_act]; rfl
theorem I_X8_all_0 : zin zm_X8_all.2.2.2.2.2 0 = some (.iconst 1, 1) := by rw [It_X8_all]; rfl
theorem I_X8_all_1 : zin zm_X8_all.2.2.2.2.2 1 = some (.aload_n 0, 1) := by rw [It_X8_all]; rfl
theorem I_X8_all_2 : zin zm_X8_all.2.2.2.2.2 2 = some (.getfield 131, 3) := by rw [It_X8_all]; rfl
theorem I_X8_all_5 : zin zm_X8_all.2.2.2.2.2 5 = some (.ishl, 1) := by rw [It_X8_all]; rfl
theorem I_X8_all_6 : zin zm_X8_all.2.2.2.2.2 6 = some (.iconst 1, 1) := by rw [It_X8_all]; rfl
theorem I_X8_all_7 : zin zm_X8_all.2.2.2.2.2 7 = some (.isub, 1) := by rw [It_X8_all]; rfl
theorem I_X8_all_8 : zin zm_X8_all.2.2.2.2.2 8 = some (.ireturn, 1) := by rw [It_X8_all]; rfl
theorem I_X8_cut_0 : zin zm_X8_cut.2.2.2.2.2 0 = some (.aload_n 0, 1) := by rw [It_X8_cut]; rfl
theorem I_X8_cut_1 : zin zm_X8_cut.2.2.2.2.2 1 = some (.iload_n 1, 1) := by rw [It_X8_cut]; rfl
theorem I_X8_cut_2 : zin zm_X8_cut.2.2.2.2.2 2 = some (.i2l, 1) := by rw [It_X8_cut]; rfl
theorem I_X8_cut_3 : zin zm_X8_cut.2.2.2.2.2 3 = some (.lconst 0, 1) := by rw [It_X8_cut]; rfl
theorem I_X8_cut_4 : zin zm_X8_cut.2.2.2.2.2 4 = some (.aload_n 0, 1) := by rw [It_X8_cut]; rfl
theorem I_X8_cut_5 : zin zm_X8_cut.2.2.2.2.2 5 = some (.getfield 7, 3) := by rw [It_X8_cut]; rfl
theorem I_X8_cut_8 : zin zm_X8_cut.2.2.2.2.2 8 = some (.bipush 26, 2) := by rw [It_X8_cut]; rfl
theorem I_X8_cut_10 : zin zm_X8_cut.2.2.2.2.2 10 = some (.iaload, 1) := by rw [It_X8_cut]; rfl
theorem I_X8_cut_11 : zin zm_X8_cut.2.2.2.2.2 11 = some (.i2l, 1) := by rw [It_X8_cut]; rfl
theorem I_X8_cut_12 : zin zm_X8_cut.2.2.2.2.2 12 = some (.invokestatic 55, 3) := by rw [It_X8_cut]; rfl
theorem I_X8_cut_15 : zin zm_X8_cut.2.2.2.2.2 15 = some (.bipush 26, 2) := by rw [It_X8_cut]; rfl
theorem I_X8_cut_17 : zin zm_X8_cut.2.2.2.2.2 17 = some (.iload_n 1, 1) := by rw [It_X8_cut]; rfl
theorem I_X8_cut_18 : zin zm_X8_cut.2.2.2.2.2 18 = some (.iconst 0, 1) := by rw [It_X8_cut]; rfl
theorem I_X8_cut_19 : zin zm_X8_cut.2.2.2.2.2 19 = some (.invokevirtual 161, 3) := by rw [It_X8_cut]; rfl
theorem I_X8_cut_22 : zin zm_X8_cut.2.2.2.2.2 22 = some (.ireturn, 1) := by rw [It_X8_cut]; rfl
theorem I_X8_forget_0 : zin zm_X8_forget.2.2.2.2.2 0 = some (.iload_n 1, 1) := by rw [It_X8_forget]; rfl
theorem I_X8_forget_1 : zin zm_X8_forget.2.2.2.2.2 1 = some (.i2l, 1) := by rw [It_X8_forget]; rfl
theorem I_X8_forget_2 : zin zm_X8_forget.2.2.2.2.2 2 = some (.lconst 0, 1) := by rw [It_X8_forget]; rfl
theorem I_X8_forget_3 : zin zm_X8_forget.2.2.2.2.2 3 = some (.aload_n 0, 1) := by rw [It_X8_forget]; rfl
theorem I_X8_forget_4 : zin zm_X8_forget.2.2.2.2.2 4 = some (.getfield 134, 3) := by rw [It_X8_forget]; rfl
theorem I_X8_forget_7 : zin zm_X8_forget.2.2.2.2.2 7 = some (.i2l, 1) := by rw [It_X8_forget]; rfl
theorem I_X8_forget_8 : zin zm_X8_forget.2.2.2.2.2 8 = some (.invokestatic 55, 3) := by rw [It_X8_forget]; rfl
theorem I_X8_forget_11 : zin zm_X8_forget.2.2.2.2.2 11 = some (.ifCond .ne 5, 3) := by rw [It_X8_forget]; rfl
theorem I_X8_forget_14 : zin zm_X8_forget.2.2.2.2.2 14 = some (.iconst (-1), 1) := by rw [It_X8_forget]; rfl
theorem I_X8_forget_15 : zin zm_X8_forget.2.2.2.2.2 15 = some (.ireturn, 1) := by rw [It_X8_forget]; rfl
theorem I_X8_forget_16 : zin zm_X8_forget.2.2.2.2.2 16 = some (.aload_n 0, 1) := by rw [It_X8_forget]; rfl
theorem I_X8_forget_17 : zin zm_X8_forget.2.2.2.2.2 17 = some (.getfield 134, 3) := by rw [It_X8_forget]; rfl
theorem I_X8_forget_20 : zin zm_X8_forget.2.2.2.2.2 20 = some (.istore_n 2, 1) := by rw [It_X8_forget]; rfl
theorem I_X8_forget_21 : zin zm_X8_forget.2.2.2.2.2 21 = some (.aload_n 0, 1) := by rw [It_X8_forget]; rfl
theorem I_X8_forget_22 : zin zm_X8_forget.2.2.2.2.2 22 = some (.iload_n 1, 1) := by rw [It_X8_forget]; rfl
theorem I_X8_forget_23 : zin zm_X8_forget.2.2.2.2.2 23 = some (.putfield 134, 3) := by rw [It_X8_forget]; rfl
theorem I_X8_forget_26 : zin zm_X8_forget.2.2.2.2.2 26 = some (.iload_n 2, 1) := by rw [It_X8_forget]; rfl
theorem I_X8_forget_27 : zin zm_X8_forget.2.2.2.2.2 27 = some (.ireturn, 1) := by rw [It_X8_forget]; rfl
theorem I_X8_isOne_0 : zin zm_X8_isOne.2.2.2.2.2 0 = some (.iload_n 1, 1) := by rw [It_X8_isOne]; rfl
theorem I_X8_isOne_1 : zin zm_X8_isOne.2.2.2.2.2 1 = some (.i2l, 1) := by rw [It_X8_isOne]; rfl
theorem I_X8_isOne_2 : zin zm_X8_isOne.2.2.2.2.2 2 = some (.lconst 0, 1) := by rw [It_X8_isOne]; rfl
theorem I_X8_isOne_3 : zin zm_X8_isOne.2.2.2.2.2 3 = some (.aload_n 0, 1) := by rw [It_X8_isOne]; rfl
theorem I_X8_isOne_4 : zin zm_X8_isOne.2.2.2.2.2 4 = some (.getfield 131, 3) := by rw [It_X8_isOne]; rfl
theorem I_X8_isOne_7 : zin zm_X8_isOne.2.2.2.2.2 7 = some (.iconst 1, 1) := by rw [It_X8_isOne]; rfl
theorem I_X8_isOne_8 : zin zm_X8_isOne.2.2.2.2.2 8 = some (.isub, 1) := by rw [It_X8_isOne]; rfl
theorem I_X8_isOne_9 : zin zm_X8_isOne.2.2.2.2.2 9 = some (.i2l, 1) := by rw [It_X8_isOne]; rfl
theorem I_X8_isOne_10 : zin zm_X8_isOne.2.2.2.2.2 10 = some (.invokestatic 55, 3) := by rw [It_X8_isOne]; rfl
theorem I_X8_isOne_13 : zin zm_X8_isOne.2.2.2.2.2 13 = some (.ireturn, 1) := by rw [It_X8_isOne]; rfl
theorem I_X8_plan_0 : zin zm_X8_plan.2.2.2.2.2 0 = some (.iload_n 1, 1) := by rw [It_X8_plan]; rfl
theorem I_X8_plan_1 : zin zm_X8_plan.2.2.2.2.2 1 = some (.i2l, 1) := by rw [It_X8_plan]; rfl
theorem I_X8_plan_2 : zin zm_X8_plan.2.2.2.2.2 2 = some (.lconst 0, 1) := by rw [It_X8_plan]; rfl
theorem I_X8_plan_3 : zin zm_X8_plan.2.2.2.2.2 3 = some (.aload_n 0, 1) := by rw [It_X8_plan]; rfl
theorem I_X8_plan_4 : zin zm_X8_plan.2.2.2.2.2 4 = some (.invokevirtual 167, 3) := by rw [It_X8_plan]; rfl
theorem I_X8_plan_7 : zin zm_X8_plan.2.2.2.2.2 7 = some (.i2l, 1) := by rw [It_X8_plan]; rfl
theorem I_X8_plan_8 : zin zm_X8_plan.2.2.2.2.2 8 = some (.invokestatic 55, 3) := by rw [It_X8_plan]; rfl
theorem I_X8_plan_11 : zin zm_X8_plan.2.2.2.2.2 11 = some (.ifCond .ne 5, 3) := by rw [It_X8_plan]; rfl
theorem I_X8_plan_14 : zin zm_X8_plan.2.2.2.2.2 14 = some (.iconst (-1), 1) := by rw [It_X8_plan]; rfl
theorem I_X8_plan_15 : zin zm_X8_plan.2.2.2.2.2 15 = some (.ireturn, 1) := by rw [It_X8_plan]; rfl
theorem I_X8_plan_16 : zin zm_X8_plan.2.2.2.2.2 16 = some (.aload_n 0, 1) := by rw [It_X8_plan]; rfl
theorem I_X8_plan_17 : zin zm_X8_plan.2.2.2.2.2 17 = some (.getfield 7, 3) := by rw [It_X8_plan]; rfl
theorem I_X8_plan_20 : zin zm_X8_plan.2.2.2.2.2 20 = some (.bipush 26, 2) := by rw [It_X8_plan]; rfl
theorem I_X8_plan_22 : zin zm_X8_plan.2.2.2.2.2 22 = some (.iaload, 1) := by rw [It_X8_plan]; rfl
theorem I_X8_plan_23 : zin zm_X8_plan.2.2.2.2.2 23 = some (.bipush 8, 2) := by rw [It_X8_plan]; rfl
theorem I_X8_plan_25 : zin zm_X8_plan.2.2.2.2.2 25 = some (.if_icmp .ne 6, 3) := by rw [It_X8_plan]; rfl
theorem I_X8_plan_28 : zin zm_X8_plan.2.2.2.2.2 28 = some (.bipush (-3), 2) := by rw [It_X8_plan]; rfl
theorem I_X8_plan_30 : zin zm_X8_plan.2.2.2.2.2 30 = some (.ireturn, 1) := by rw [It_X8_plan]; rfl
theorem I_X8_plan_31 : zin zm_X8_plan.2.2.2.2.2 31 = some (.aload_n 0, 1) := by rw [It_X8_plan]; rfl
theorem I_X8_plan_32 : zin zm_X8_plan.2.2.2.2.2 32 = some (.getfield 7, 3) := by rw [It_X8_plan]; rfl
theorem I_X8_plan_35 : zin zm_X8_plan.2.2.2.2.2 35 = some (.bipush 18, 2) := by rw [It_X8_plan]; rfl
theorem I_X8_plan_37 : zin zm_X8_plan.2.2.2.2.2 37 = some (.aload_n 0, 1) := by rw [It_X8_plan]; rfl
theorem I_X8_plan_38 : zin zm_X8_plan.2.2.2.2.2 38 = some (.getfield 7, 3) := by rw [It_X8_plan]; rfl
theorem I_X8_plan_41 : zin zm_X8_plan.2.2.2.2.2 41 = some (.bipush 26, 2) := by rw [It_X8_plan]; rfl
theorem I_X8_plan_43 : zin zm_X8_plan.2.2.2.2.2 43 = some (.iaload, 1) := by rw [It_X8_plan]; rfl
theorem I_X8_plan_44 : zin zm_X8_plan.2.2.2.2.2 44 = some (.iadd, 1) := by rw [It_X8_plan]; rfl
theorem I_X8_plan_45 : zin zm_X8_plan.2.2.2.2.2 45 = some (.iload_n 1, 1) := by rw [It_X8_plan]; rfl
theorem I_X8_plan_46 : zin zm_X8_plan.2.2.2.2.2 46 = some (.iastore, 1) := by rw [It_X8_plan]; rfl
theorem I_X8_plan_47 : zin zm_X8_plan.2.2.2.2.2 47 = some (.aload_n 0, 1) := by rw [It_X8_plan]; rfl
theorem I_X8_plan_48 : zin zm_X8_plan.2.2.2.2.2 48 = some (.getfield 7, 3) := by rw [It_X8_plan]; rfl
theorem I_X8_plan_51 : zin zm_X8_plan.2.2.2.2.2 51 = some (.bipush 26, 2) := by rw [It_X8_plan]; rfl
theorem I_X8_plan_53 : zin zm_X8_plan.2.2.2.2.2 53 = some (.dup2, 1) := by rw [It_X8_plan]; rfl
theorem I_X8_plan_54 : zin zm_X8_plan.2.2.2.2.2 54 = some (.iaload, 1) := by rw [It_X8_plan]; rfl
theorem I_X8_plan_55 : zin zm_X8_plan.2.2.2.2.2 55 = some (.iconst 1, 1) := by rw [It_X8_plan]; rfl
theorem I_X8_plan_56 : zin zm_X8_plan.2.2.2.2.2 56 = some (.iadd, 1) := by rw [It_X8_plan]; rfl
theorem I_X8_plan_57 : zin zm_X8_plan.2.2.2.2.2 57 = some (.iastore, 1) := by rw [It_X8_plan]; rfl
theorem I_X8_plan_58 : zin zm_X8_plan.2.2.2.2.2 58 = some (.aload_n 0, 1) := by rw [It_X8_plan]; rfl
theorem I_X8_plan_59 : zin zm_X8_plan.2.2.2.2.2 59 = some (.getfield 7, 3) := by rw [It_X8_plan]; rfl
theorem I_X8_plan_62 : zin zm_X8_plan.2.2.2.2.2 62 = some (.bipush 26, 2) := by rw [It_X8_plan]; rfl
theorem I_X8_plan_64 : zin zm_X8_plan.2.2.2.2.2 64 = some (.iaload, 1) := by rw [It_X8_plan]; rfl
theorem I_X8_plan_65 : zin zm_X8_plan.2.2.2.2.2 65 = some (.ireturn, 1) := by rw [It_X8_plan]; rfl
theorem I_X8_puts_0 : zin zm_X8_puts.2.2.2.2.2 0 = some (.iload_n 1, 1) := by rw [It_X8_puts]; rfl
theorem I_X8_puts_1 : zin zm_X8_puts.2.2.2.2.2 1 = some (.ifCond .ne 5, 3) := by rw [It_X8_puts]; rfl
theorem I_X8_puts_4 : zin zm_X8_puts.2.2.2.2.2 4 = some (.iconst (-1), 1) := by rw [It_X8_puts]; rfl
theorem I_X8_puts_5 : zin zm_X8_puts.2.2.2.2.2 5 = some (.ireturn, 1) := by rw [It_X8_puts]; rfl
theorem I_X8_puts_6 : zin zm_X8_puts.2.2.2.2.2 6 = some (.aload_n 0, 1) := by rw [It_X8_puts]; rfl
theorem I_X8_puts_7 : zin zm_X8_puts.2.2.2.2.2 7 = some (.getfield 7, 3) := by rw [It_X8_puts]; rfl
theorem I_X8_puts_10 : zin zm_X8_puts.2.2.2.2.2 10 = some (.iload_n 2, 1) := by rw [It_X8_puts]; rfl
theorem I_X8_puts_11 : zin zm_X8_puts.2.2.2.2.2 11 = some (.iaload, 1) := by rw [It_X8_puts]; rfl
theorem I_X8_puts_12 : zin zm_X8_puts.2.2.2.2.2 12 = some (.iload 4, 2) := by rw [It_X8_puts]; rfl
theorem I_X8_puts_14 : zin zm_X8_puts.2.2.2.2.2 14 = some (.iadd, 1) := by rw [It_X8_puts]; rfl
theorem I_X8_puts_15 : zin zm_X8_puts.2.2.2.2.2 15 = some (.istore 5, 2) := by rw [It_X8_puts]; rfl
theorem I_X8_puts_17 : zin zm_X8_puts.2.2.2.2.2 17 = some (.aload_n 0, 1) := by rw [It_X8_puts]; rfl
theorem I_X8_puts_18 : zin zm_X8_puts.2.2.2.2.2 18 = some (.getfield 7, 3) := by rw [It_X8_puts]; rfl
theorem I_X8_puts_21 : zin zm_X8_puts.2.2.2.2.2 21 = some (.iload_n 2, 1) := by rw [It_X8_puts]; rfl
theorem I_X8_puts_22 : zin zm_X8_puts.2.2.2.2.2 22 = some (.iload_n 3, 1) := by rw [It_X8_puts]; rfl
theorem I_X8_puts_23 : zin zm_X8_puts.2.2.2.2.2 23 = some (.iload 4, 2) := by rw [It_X8_puts]; rfl
theorem I_X8_puts_25 : zin zm_X8_puts.2.2.2.2.2 25 = some (.isub, 1) := by rw [It_X8_puts]; rfl
theorem I_X8_puts_26 : zin zm_X8_puts.2.2.2.2.2 26 = some (.iastore, 1) := by rw [It_X8_puts]; rfl
theorem I_X8_puts_27 : zin zm_X8_puts.2.2.2.2.2 27 = some (.iload 5, 2) := by rw [It_X8_puts]; rfl
theorem I_X8_puts_29 : zin zm_X8_puts.2.2.2.2.2 29 = some (.ireturn, 1) := by rw [It_X8_puts]; rfl
theorem I_X8_slack_0 : zin zm_X8_slack.2.2.2.2.2 0 = some (.aload_n 0, 1) := by rw [It_X8_slack]; rfl
theorem I_X8_slack_1 : zin zm_X8_slack.2.2.2.2.2 1 = some (.iload_n 1, 1) := by rw [It_X8_slack]; rfl
theorem I_X8_slack_2 : zin zm_X8_slack.2.2.2.2.2 2 = some (.i2l, 1) := by rw [It_X8_slack]; rfl
theorem I_X8_slack_3 : zin zm_X8_slack.2.2.2.2.2 3 = some (.lconst 0, 1) := by rw [It_X8_slack]; rfl
theorem I_X8_slack_4 : zin zm_X8_slack.2.2.2.2.2 4 = some (.ldc2_w 165, 3) := by rw [It_X8_slack]; rfl
theorem I_X8_slack_7 : zin zm_X8_slack.2.2.2.2.2 7 = some (.invokestatic 55, 3) := by rw [It_X8_slack]; rfl
theorem I_X8_slack_10 : zin zm_X8_slack.2.2.2.2.2 10 = some (.bipush 16, 2) := by rw [It_X8_slack]; rfl
theorem I_X8_slack_12 : zin zm_X8_slack.2.2.2.2.2 12 = some (.iload_n 1, 1) := by rw [It_X8_slack]; rfl
theorem I_X8_slack_13 : zin zm_X8_slack.2.2.2.2.2 13 = some (.iconst 1, 1) := by rw [It_X8_slack]; rfl
theorem I_X8_slack_14 : zin zm_X8_slack.2.2.2.2.2 14 = some (.invokevirtual 161, 3) := by rw [It_X8_slack]; rfl
theorem I_X8_slack_17 : zin zm_X8_slack.2.2.2.2.2 17 = some (.ireturn, 1) := by rw [It_X8_slack]; rfl
theorem G_7_93 : zlk zfls 7 93 = some (0, 4, 134) := rfl
theorem G_7_99 : zlk zfls 7 99 = some (0, 3, 132) := rfl
theorem G_7_140 : zlk zfls 7 140 = some (0, 1, 124) := rfl
theorem K_7_152 : zlk zmls 7 152 = some (0, 4, 1, 544) := rfl
theorem K_8_161 : zlk zmls 8 161 = some (0, 136, 4, 1031) := rfl
theorem K_8_167 : zlk zmls 8 167 = some (0, 139, 0, 1044) := rfl
theorem Zm_4 : zms[4]? = some zm_X0_hasAll := rfl
theorem Zm_136 : zms[136]? = some zm_X8_puts := rfl
theorem Zm_139 : zms[139]? = some zm_X8_all := rfl
theorem LY_11 : zLY[11]? = some (Sum.inr 0, [some (.ref 12), some (.ref 13), none, none, none, none]) := rfl
theorem LY_13 : zLY[13]? = some (Sum.inl 0, List.replicate 8 none) := rfl
theorem J_8_165 : zlk zcJs 8 165 = some (9, 1039) := rfl
theorem cl_X0_has : zm_X0_has.2.2.2.2.1 = 0 := by
  unfold zm_X0_has
  rfl
theorem cn_X0_has : zm_X0_has.2.2.2.2.1 ≠ 12 := by
  rw [cl_X0_has]
  decide
theorem cn2_X0_has : zm_X0_has.2.2.2.2.1 ≠ 2 := by
  rw [cl_X0_has]
  decide
theorem cl_X0_hasAll : zm_X0_hasAll.2.2.2.2.1 = 0 := by
  unfold zm_X0_hasAll
  rfl
theorem cn_X0_hasAll : zm_X0_hasAll.2.2.2.2.1 ≠ 12 := by
  rw [cl_X0_hasAll]
  decide
theorem cn2_X0_hasAll : zm_X0_hasAll.2.2.2.2.1 ≠ 2 := by
  rw [cl_X0_hasAll]
  decide
theorem cl_X7_act : zm_X7_act.2.2.2.2.1 = 7 := by
  unfold zm_X7_act
  rfl
theorem cn_X7_act : zm_X7_act.2.2.2.2.1 ≠ 12 := by
  rw [cl_X7_act]
  decide
theorem cn2_X7_act : zm_X7_act.2.2.2.2.1 ≠ 2 := by
  rw [cl_X7_act]
  decide
theorem cl_X7_cut : zm_X7_cut.2.2.2.2.1 = 7 := by
  unfold zm_X7_cut
  rfl
theorem cn_X7_cut : zm_X7_cut.2.2.2.2.1 ≠ 12 := by
  rw [cl_X7_cut]
  decide
theorem cn2_X7_cut : zm_X7_cut.2.2.2.2.1 ≠ 2 := by
  rw [cl_X7_cut]
  decide
theorem cl_X7_forget : zm_X7_forget.2.2.2.2.1 = 7 := by
  unfold zm_X7_forget
  rfl
theorem cn_X7_forget : zm_X7_forget.2.2.2.2.1 ≠ 12 := by
  rw [cl_X7_forget]
  decide
theorem cn2_X7_forget : zm_X7_forget.2.2.2.2.1 ≠ 2 := by
  rw [cl_X7_forget]
  decide
theorem cl_X7_plan : zm_X7_plan.2.2.2.2.1 = 7 := by
  unfold zm_X7_plan
  rfl
theorem cn_X7_plan : zm_X7_plan.2.2.2.2.1 ≠ 12 := by
  rw [cl_X7_plan]
  decide
theorem cn2_X7_plan : zm_X7_plan.2.2.2.2.1 ≠ 2 := by
  rw [cl_X7_plan]
  decide
theorem cl_X7_slack : zm_X7_slack.2.2.2.2.1 = 7 := by
  unfold zm_X7_slack
  rfl
theorem cn_X7_slack : zm_X7_slack.2.2.2.2.1 ≠ 12 := by
  rw [cl_X7_slack]
  decide
theorem cn2_X7_slack : zm_X7_slack.2.2.2.2.1 ≠ 2 := by
  rw [cl_X7_slack]
  decide
theorem cl_X8_act : zm_X8_act.2.2.2.2.1 = 8 := by
  unfold zm_X8_act
  rfl
theorem cn_X8_act : zm_X8_act.2.2.2.2.1 ≠ 12 := by
  rw [cl_X8_act]
  decide
theorem cn2_X8_act : zm_X8_act.2.2.2.2.1 ≠ 2 := by
  rw [cl_X8_act]
  decide
theorem cl_X8_all : zm_X8_all.2.2.2.2.1 = 8 := by
  unfold zm_X8_all
  rfl
theorem cn_X8_all : zm_X8_all.2.2.2.2.1 ≠ 12 := by
  rw [cl_X8_all]
  decide
theorem cn2_X8_all : zm_X8_all.2.2.2.2.1 ≠ 2 := by
  rw [cl_X8_all]
  decide
theorem cl_X8_cut : zm_X8_cut.2.2.2.2.1 = 8 := by
  unfold zm_X8_cut
  rfl
theorem cn_X8_cut : zm_X8_cut.2.2.2.2.1 ≠ 12 := by
  rw [cl_X8_cut]
  decide
theorem cn2_X8_cut : zm_X8_cut.2.2.2.2.1 ≠ 2 := by
  rw [cl_X8_cut]
  decide
theorem cl_X8_forget : zm_X8_forget.2.2.2.2.1 = 8 := by
  unfold zm_X8_forget
  rfl
theorem cn_X8_forget : zm_X8_forget.2.2.2.2.1 ≠ 12 := by
  rw [cl_X8_forget]
  decide
theorem cn2_X8_forget : zm_X8_forget.2.2.2.2.1 ≠ 2 := by
  rw [cl_X8_forget]
  decide
theorem cl_X8_isOne : zm_X8_isOne.2.2.2.2.1 = 8 := by
  unfold zm_X8_isOne
  rfl
theorem cn_X8_isOne : zm_X8_isOne.2.2.2.2.1 ≠ 12 := by
  rw [cl_X8_isOne]
  decide
theorem cn2_X8_isOne : zm_X8_isOne.2.2.2.2.1 ≠ 2 := by
  rw [cl_X8_isOne]
  decide
theorem cl_X8_plan : zm_X8_plan.2.2.2.2.1 = 8 := by
  unfold zm_X8_plan
  rfl
theorem cn_X8_plan : zm_X8_plan.2.2.2.2.1 ≠ 12 := by
  rw [cl_X8_plan]
  decide
theorem cn2_X8_plan : zm_X8_plan.2.2.2.2.1 ≠ 2 := by
  rw [cl_X8_plan]
  decide
theorem cl_X8_puts : zm_X8_puts.2.2.2.2.1 = 8 := by
  unfold zm_X8_puts
  rfl
theorem cn_X8_puts : zm_X8_puts.2.2.2.2.1 ≠ 12 := by
  rw [cl_X8_puts]
  decide
theorem cn2_X8_puts : zm_X8_puts.2.2.2.2.1 ≠ 2 := by
  rw [cl_X8_puts]
  decide
/-- between two bounds -/
abbrev zBt (x lo hi : Int32) : Prop := ¬ x < lo ∧ ¬ hi < x
theorem zin_bt {x lo hi : Int32} {a b : Int64} (ha : a.toInt = lo.toInt) (hb : b.toInt = hi.toInt) : zin64 x.toInt64 a b = if zBt x lo hi then 1 else 0 := by
  rw [zin_32, ha, hb]
  have e1 : x < lo ↔ x.toInt < lo.toInt := Int32.lt_iff_toInt_lt
  have e2 : hi < x ↔ hi.toInt < x.toInt := Int32.lt_iff_toInt_lt
  by_cases h1 : x < lo
  · rw [if_neg (by have := e1.mp h1; omega), if_neg (fun w => w.1 h1)]
  · by_cases h2 : hi < x
    · rw [if_neg (by have := e2.mp h2; omega), if_neg (fun w => w.2 h2)]
    · rw [if_pos ⟨by have := mt e1.mpr h1; omega, by have := mt e2.mpr h2; omega⟩, if_pos ⟨h1, h2⟩]
theorem zbt_n {x hi : Int32} {n : Nat} (hn : hi = Int32.ofNat n) (hn2 : n ≤ 100000) (h : zBt x 0 hi) : ∃ k, k ≤ n ∧ x = Int32.ofNat k := by
  obtain ⟨h1, h2⟩ := h
  rw [Int32.lt_iff_toInt_lt] at h1 h2
  rw [hn, zofn_t (by omega)] at h2
  have e0 : (0 : Int32).toInt = 0 := rfl
  refine ⟨x.toInt.toNat, by omega, ?_⟩
  apply Int32.toInt_inj.mp
  rw [zofn_t (by omega)]
  omega
theorem zofn_m1 {n : Nat} (h : n ≤ 100000) : (Int32.ofNat n - 1).toInt = (n : Int) - 1 := by
  cases n with
  | zero => rfl
  | succ n =>
    rw [show (1 : Int32) = Int32.ofNat 1 from rfl, ← zofn_sub (by omega), zofn_t (by omega)]
    omega
theorem zin_lt0 {x y : Int32} {n : Nat} (hy : y = Int32.ofNat n) (hn : n ≤ 100000) {a : Int64} (ha : a.toInt = 0) : zin64 x.toInt64 a (y - 1).toInt64 = if ¬ x < 0 ∧ x < y then 1 else 0 := by
  rw [zin_32, ha, Int32.toInt_toInt64, hy, zofn_m1 hn]
  have e1 : x < 0 ↔ x.toInt < 0 := Int32.lt_iff_toInt_lt
  have e2 : x < Int32.ofNat n ↔ x.toInt < (n : Int) := by rw [Int32.lt_iff_toInt_lt, zofn_t (by omega)]
  by_cases h1 : x < 0
  · rw [if_neg (by have := e1.mp h1; omega), if_neg (fun w => w.1 h1)]
  · by_cases h2 : x < Int32.ofNat n
    · rw [if_pos ⟨by have := mt e1.mpr h1; omega, by have := e2.mp h2; omega⟩, if_pos ⟨h1, h2⟩]
    · rw [if_neg (fun w => h2 (e2.mpr (by omega))), if_neg (fun w => h2 w.2)]
theorem zlt_n {x y : Int32} {n : Nat} (hy : y = Int32.ofNat n) (hn : n ≤ 100000) (h : ¬ x < 0 ∧ x < y) : ∃ k, k < n ∧ x = Int32.ofNat k := by
  obtain ⟨h1, h2⟩ := h
  rw [Int32.lt_iff_toInt_lt] at h1 h2
  rw [hy, zofn_t (by omega)] at h2
  have e0 : (0 : Int32).toInt = 0 := rfl
  refine ⟨x.toInt.toNat, by omega, ?_⟩
  apply Int32.toInt_inj.mp
  rw [zofn_t (by omega)]
  omega
theorem t_X8_puts {d : Nat} {m : zM} {r : Option Value} {h' : zHp} {b x v e : Int32} {k : Nat} (hx : x = Int32.ofNat k) (hk : k < 135) (H : zE none d zm_X8_puts 0 [.ref 71, .int b, .int x, .int v, .int e, .null] [] m r h') : (b = 0 ∧ r = some (.int (-1)) ∧ h' = zhp m) ∨ (¬ b = 0 ∧ r = some (.int (m 72 k + e)) ∧ h' = zhp (zup m 72 k (v - e))) := by
  replace H := i_iln (q := 1) H I_X8_puts_0 rfl rfl
  have W := i_if_ne (t := 6) (q := 4) H I_X8_puts_1 (by decide) rfl
  clear H
  rcases W with ⟨c_1, H⟩ | ⟨c_1, H⟩
  · skip
    replace H := i_aln (q := 7) H I_X8_puts_6 rfl rfl
    replace H := i_gfr (q := 10) H I_X8_puts_7 G_8_7 cn_X8_puts LY_71 rfl rfl
    replace H := i_iln (q := 11) H I_X8_puts_10 rfl rfl
    have W := i_ia (q := 12) H I_X8_puts_11 LY_72 rfl
    clear H
    obtain ⟨i_11, bi_11, ei_11, H⟩ := W
    replace H := i_il (q := 14) H I_X8_puts_12 rfl rfl
    replace H := i_iadd (q := 15) H I_X8_puts_14 rfl
    replace H := i_is (q := 17) H I_X8_puts_15 rfl rfl
    replace H := i_aln (q := 18) H I_X8_puts_17 rfl rfl
    replace H := i_gfr (q := 21) H I_X8_puts_18 G_8_7 cn_X8_puts LY_71 rfl rfl
    replace H := i_iln (q := 22) H I_X8_puts_21 rfl rfl
    replace H := i_iln (q := 23) H I_X8_puts_22 rfl rfl
    replace H := i_il (q := 25) H I_X8_puts_23 rfl rfl
    replace H := i_isub (q := 26) H I_X8_puts_25 rfl
    have W := i_iast (q := 27) H I_X8_puts_26 LY_72 rfl
    clear H
    obtain ⟨i_26, bi_26, ei_26, H⟩ := W
    replace H := i_il (q := 29) H I_X8_puts_27 rfl rfl
    obtain ⟨hr, hh⟩ := i_ir H I_X8_puts_29
    first
    | exact Or.inl ⟨c_1, hr, hh⟩
    | (have i1 := zofn (hx.symm.trans ei_11) (by omega) (by omega); subst i1; have i2 := zofn (hx.symm.trans ei_26) (by omega) (by omega); subst i2; exact Or.inr ⟨c_1, hr, hh⟩)
  · skip
    replace H := i_icst (x := (-1)) (q := 5) H I_X8_puts_4 (by decide) rfl
    obtain ⟨hr, hh⟩ := i_ir H I_X8_puts_5
    first
    | exact Or.inl ⟨c_1, hr, hh⟩
    | (have i1 := zofn (hx.symm.trans ei_11) (by omega) (by omega); subst i1; have i2 := zofn (hx.symm.trans ei_26) (by omega) (by omega); subst i2; exact Or.inr ⟨c_1, hr, hh⟩)
theorem t_X7_slack {d : Nat} {m : zM} {r : Option Value} {h' : zHp} {x : Int32}  (H : zE none d zm_X7_slack 0 [.ref 0, .int x, .null] [] m r h') : ∃ m1 v, r = some (.int v) ∧ h' = zhp m1 ∧ ((¬ (zBt x 0 9) ∧ v = -1 ∧ m1 = m) ∨ (zBt x 0 9 ∧ v = m 11 4 ∧ m1 = zup m 11 4 x)) := by
  replace H := i_iln (q := 1) H I_X7_slack_0 rfl rfl
  have W := i_if_lt (t := 10) (q := 4) H I_X7_slack_1 (by decide) rfl
  clear H
  rcases W with ⟨c_1, H⟩ | ⟨c_1, H⟩
  · skip
    replace H := i_icst (x := (-1)) (q := 11) H I_X7_slack_10 (by decide) rfl
    obtain ⟨hr, hh⟩ := i_ir H I_X7_slack_11
    exact ⟨_, _, hr, hh, Or.inl ⟨fun w => w.1 c_1, rfl, rfl⟩⟩
  · skip
    replace H := i_iln (q := 5) H I_X7_slack_4 rfl rfl
    replace H := i_bip (x := 9) (q := 7) H I_X7_slack_5 (by decide) rfl
    have W := i_ic_le (t := 12) (q := 10) H I_X7_slack_7 (by decide) rfl
    clear H
    rcases W with ⟨c_7, H⟩ | ⟨c_7, H⟩
    · skip
      replace H := i_aln (q := 13) H I_X7_slack_12 rfl rfl
      replace H := i_gfr (q := 16) H I_X7_slack_13 G_7_19 cn_X7_slack LY_0 rfl rfl
      replace H := i_gfi (q := 19) H I_X7_slack_16 G_7_93 cn_X7_slack LY_11 rfl rfl
      replace H := i_isn (q := 20) H I_X7_slack_19 rfl rfl
      replace H := i_aln (q := 21) H I_X7_slack_20 rfl rfl
      replace H := i_gfr (q := 24) H I_X7_slack_21 G_7_19 cn_X7_slack LY_0 rfl rfl
      replace H := i_iln (q := 25) H I_X7_slack_24 rfl rfl
      replace H := i_pf (q := 28) H I_X7_slack_25 G_7_93 cn_X7_slack LY_11 rfl rfl
      replace H := i_iln (q := 29) H I_X7_slack_28 rfl rfl
      obtain ⟨hr, hh⟩ := i_ir H I_X7_slack_29
      exact ⟨_, _, hr, hh, Or.inr ⟨⟨c_1, c_7⟩, rfl, rfl⟩⟩
    · skip
      replace H := i_icst (x := (-1)) (q := 11) H I_X7_slack_10 (by decide) rfl
      obtain ⟨hr, hh⟩ := i_ir H I_X7_slack_11
      exact ⟨_, _, hr, hh, Or.inl ⟨fun w => w.2 c_7, rfl, rfl⟩⟩
theorem t_X8_slack {d : Nat} {m : zM} {r : Option Value} {h' : zHp} {x : Int32}  (H : zE none d zm_X8_slack 0 [.ref 71, .int x] [] m r h') : ∃ m1 v, r = some (.int v) ∧ h' = zhp m1 ∧ ((¬ (zBt x 0 9) ∧ v = -1 ∧ m1 = m) ∨ (zBt x 0 9 ∧ v = m 72 16 + 1 ∧ m1 = zup m 72 16 (x - 1))) := by
  replace H := i_aln (q := 1) H I_X8_slack_0 rfl rfl
  replace H := i_iln (q := 2) H I_X8_slack_1 rfl rfl
  replace H := i_i2l (q := 3) H I_X8_slack_2 rfl
  replace H := i_lcst (x := 0) (q := 4) H I_X8_slack_3 (by decide) rfl
  replace H := i_ldc2 (x := 9) (q := 7) H I_X8_slack_4 J_8_165 (by decide) rfl
  replace H := i_in (q := 10) H I_X8_slack_7 K_8_55 rfl
  replace H := i_bip (x := 16) (q := 12) H I_X8_slack_10 (by decide) rfl
  replace H := i_iln (q := 13) H I_X8_slack_12 rfl rfl
  replace H := i_icst (x := 1) (q := 14) H I_X8_slack_13 (by decide) rfl
  have W := i_cv4 1 (q := 17) H I_X8_slack_14 K_8_161 Zm_136 rfl rfl
  clear H
  obtain ⟨r1, h1, Hc, K1, K2⟩ := W
  rcases t_X8_puts (k := 16) rfl (by omega) Hc with ⟨g1, e1, e2⟩ | ⟨g1, e1, e2⟩
  · have H := K1 _ _ e1 e2
    clear e1 e2 Hc K1 K2
    obtain ⟨hr, hh⟩ := i_ir H I_X8_slack_17
    rw [zin_bt (lo := 0) (hi := 9) rfl rfl] at g1
    exact ⟨_, _, hr, hh, Or.inl ⟨zif0 g1, rfl, rfl⟩⟩
  · have H := K1 _ _ e1 e2
    clear e1 e2 Hc K1 K2
    obtain ⟨hr, hh⟩ := i_ir H I_X8_slack_17
    rw [zin_bt (lo := 0) (hi := 9) rfl rfl] at g1
    exact ⟨_, _, hr, hh, Or.inr ⟨zif1 g1, rfl, rfl⟩⟩
theorem t_X7_act {d : Nat} {m : zM} {r : Option Value} {h' : zHp} {x : Int32} {a : Nat} (ha : m 11 3 = Int32.ofNat a) (ha8 : a ≤ 8) (H : zE none d zm_X7_act 0 [.ref 0, .int x] [] m r h') : ∃ v, r = some (.int v) ∧ h' = zhp m ∧ ((¬ (¬ x < 0 ∧ x < m 11 3) ∧ v = -1) ∨ ((¬ x < 0 ∧ x < m 11 3) ∧ ∃ k, k < 8 ∧ x = Int32.ofNat k ∧ v = m 13 k)) := by
  replace H := i_iln (q := 1) H I_X7_act_0 rfl rfl
  have W := i_if_lt (t := 15) (q := 4) H I_X7_act_1 (by decide) rfl
  clear H
  rcases W with ⟨c_1, H⟩ | ⟨c_1, H⟩
  · skip
    replace H := i_icst (x := (-1)) (q := 16) H I_X7_act_15 (by decide) rfl
    replace H := i_goto (q := 28) H I_X7_act_16 (by decide)
    obtain ⟨hr, hh⟩ := i_ir H I_X7_act_28
    exact ⟨_, hr, hh, Or.inl ⟨fun w => w.1 c_1, rfl⟩⟩
  · skip
    replace H := i_iln (q := 5) H I_X7_act_4 rfl rfl
    replace H := i_aln (q := 6) H I_X7_act_5 rfl rfl
    replace H := i_gfr (q := 9) H I_X7_act_6 G_7_19 cn_X7_act LY_0 rfl rfl
    replace H := i_gfi (q := 12) H I_X7_act_9 G_7_99 cn_X7_act LY_11 rfl rfl
    have W := i_ic_lt (t := 19) (q := 15) H I_X7_act_12 (by decide) rfl
    clear H
    rcases W with ⟨c_12, H⟩ | ⟨c_12, H⟩
    · skip
      replace H := i_aln (q := 20) H I_X7_act_19 rfl rfl
      replace H := i_gfr (q := 23) H I_X7_act_20 G_7_19 cn_X7_act LY_0 rfl rfl
      replace H := i_gfr (q := 26) H I_X7_act_23 G_7_140 cn_X7_act LY_11 rfl rfl
      replace H := i_iln (q := 27) H I_X7_act_26 rfl rfl
      have W := i_ia (q := 28) H I_X7_act_27 LY_13 rfl
      clear H
      obtain ⟨i_27, bi_27, ei_27, H⟩ := W
      obtain ⟨hr, hh⟩ := i_ir H I_X7_act_28
      exact ⟨_, hr, hh, Or.inr ⟨⟨c_1, c_12⟩, i_27, bi_27, ei_27, rfl⟩⟩
    · skip
      replace H := i_icst (x := (-1)) (q := 16) H I_X7_act_15 (by decide) rfl
      replace H := i_goto (q := 28) H I_X7_act_16 (by decide)
      obtain ⟨hr, hh⟩ := i_ir H I_X7_act_28
      exact ⟨_, hr, hh, Or.inl ⟨fun w => c_12 w.2, rfl⟩⟩
theorem t_X8_act {d : Nat} {m : zM} {r : Option Value} {h' : zHp} {x : Int32} {a : Nat} (ha : m 72 26 = Int32.ofNat a) (ha8 : a ≤ 8) (H : zE none d zm_X8_act 0 [.ref 71, .int x] [] m r h') : ∃ v, r = some (.int v) ∧ h' = zhp m ∧ ((¬ (¬ x < 0 ∧ x < m 72 26) ∧ v = -1) ∨ ((¬ x < 0 ∧ x < m 72 26) ∧ ∃ k, k < 8 ∧ x = Int32.ofNat k ∧ v = m 72 (18 + k))) := by
  replace H := i_iln (q := 1) H I_X8_act_0 rfl rfl
  replace H := i_i2l (q := 2) H I_X8_act_1 rfl
  replace H := i_lcst (x := 0) (q := 3) H I_X8_act_2 (by decide) rfl
  replace H := i_aln (q := 4) H I_X8_act_3 rfl rfl
  replace H := i_gfr (q := 7) H I_X8_act_4 G_8_7 cn_X8_act LY_71 rfl rfl
  replace H := i_bip (x := 26) (q := 9) H I_X8_act_7 (by decide) rfl
  have W := i_ia (q := 10) H I_X8_act_9 LY_72 rfl
  clear H
  obtain ⟨i_9, bi_9, ei_9, H⟩ := W
  replace H := i_icst (x := 1) (q := 11) H I_X8_act_10 (by decide) rfl
  replace H := i_isub (q := 12) H I_X8_act_11 rfl
  replace H := i_i2l (q := 13) H I_X8_act_12 rfl
  replace H := i_in (q := 16) H I_X8_act_13 K_8_55 rfl
  have W := i_if_eq (t := 31) (q := 19) H I_X8_act_16 (by decide) rfl
  clear H
  rcases W with ⟨c_16, H⟩ | ⟨c_16, H⟩
  · skip
    replace H := i_icst (x := (-1)) (q := 32) H I_X8_act_31 (by decide) rfl
    obtain ⟨hr, hh⟩ := i_ir H I_X8_act_32
    have i1 : i_9 = 26 := (zofn (i := 26) ei_9 (by decide) (by omega)).symm
    subst i1
    rw [zin_lt0 ha (by omega) rfl] at c_16
    exact ⟨_, hr, hh, Or.inl ⟨zif0 c_16, rfl⟩⟩
  · skip
    replace H := i_aln (q := 20) H I_X8_act_19 rfl rfl
    replace H := i_gfr (q := 23) H I_X8_act_20 G_8_7 cn_X8_act LY_71 rfl rfl
    replace H := i_bip (x := 18) (q := 25) H I_X8_act_23 (by decide) rfl
    replace H := i_iln (q := 26) H I_X8_act_25 rfl rfl
    replace H := i_iadd (q := 27) H I_X8_act_26 rfl
    have W := i_ia (q := 28) H I_X8_act_27 LY_72 rfl
    clear H
    obtain ⟨i_27, bi_27, ei_27, H⟩ := W
    replace H := i_goto (q := 32) H I_X8_act_28 (by decide)
    obtain ⟨hr, hh⟩ := i_ir H I_X8_act_32
    have i1 : i_9 = 26 := (zofn (i := 26) ei_9 (by decide) (by omega)).symm
    subst i1
    rw [zin_lt0 ha (by omega) rfl] at c_16
    have hb := zif1 c_16
    obtain ⟨k, k1, rfl⟩ := zlt_n ha (by omega) hb
    have i2 : i_27 = 18 + k := zix_add (k := 18) rfl rfl ei_27 (by omega) (by omega)
    subst i2
    exact ⟨_, hr, hh, Or.inr ⟨hb, k, by omega, rfl, rfl⟩⟩
theorem t_X7_cut {d : Nat} {m : zM} {r : Option Value} {h' : zHp} {x : Int32}  (H : zE none d zm_X7_cut 0 [.ref 0, .int x, .null] [] m r h') : ∃ m1 v, r = some (.int v) ∧ h' = zhp m1 ∧ ((¬ (zBt x 0 (m 11 3)) ∧ v = -1 ∧ m1 = m) ∨ (zBt x 0 (m 11 3) ∧ v = m 11 3 ∧ m1 = zup m 11 3 x)) := by
  replace H := i_iln (q := 1) H I_X7_cut_0 rfl rfl
  have W := i_if_lt (t := 15) (q := 4) H I_X7_cut_1 (by decide) rfl
  clear H
  rcases W with ⟨c_1, H⟩ | ⟨c_1, H⟩
  · skip
    replace H := i_icst (x := (-1)) (q := 16) H I_X7_cut_15 (by decide) rfl
    obtain ⟨hr, hh⟩ := i_ir H I_X7_cut_16
    exact ⟨_, _, hr, hh, Or.inl ⟨fun w => w.1 c_1, rfl, rfl⟩⟩
  · skip
    replace H := i_iln (q := 5) H I_X7_cut_4 rfl rfl
    replace H := i_aln (q := 6) H I_X7_cut_5 rfl rfl
    replace H := i_gfr (q := 9) H I_X7_cut_6 G_7_19 cn_X7_cut LY_0 rfl rfl
    replace H := i_gfi (q := 12) H I_X7_cut_9 G_7_99 cn_X7_cut LY_11 rfl rfl
    have W := i_ic_le (t := 17) (q := 15) H I_X7_cut_12 (by decide) rfl
    clear H
    rcases W with ⟨c_12, H⟩ | ⟨c_12, H⟩
    · skip
      replace H := i_aln (q := 18) H I_X7_cut_17 rfl rfl
      replace H := i_gfr (q := 21) H I_X7_cut_18 G_7_19 cn_X7_cut LY_0 rfl rfl
      replace H := i_gfi (q := 24) H I_X7_cut_21 G_7_99 cn_X7_cut LY_11 rfl rfl
      replace H := i_isn (q := 25) H I_X7_cut_24 rfl rfl
      replace H := i_aln (q := 26) H I_X7_cut_25 rfl rfl
      replace H := i_gfr (q := 29) H I_X7_cut_26 G_7_19 cn_X7_cut LY_0 rfl rfl
      replace H := i_iln (q := 30) H I_X7_cut_29 rfl rfl
      replace H := i_pf (q := 33) H I_X7_cut_30 G_7_99 cn_X7_cut LY_11 rfl rfl
      replace H := i_iln (q := 34) H I_X7_cut_33 rfl rfl
      obtain ⟨hr, hh⟩ := i_ir H I_X7_cut_34
      exact ⟨_, _, hr, hh, Or.inr ⟨⟨c_1, c_12⟩, rfl, rfl⟩⟩
    · skip
      replace H := i_icst (x := (-1)) (q := 16) H I_X7_cut_15 (by decide) rfl
      obtain ⟨hr, hh⟩ := i_ir H I_X7_cut_16
      exact ⟨_, _, hr, hh, Or.inl ⟨fun w => w.2 c_12, rfl, rfl⟩⟩
theorem t_X8_cut {d : Nat} {m : zM} {r : Option Value} {h' : zHp} {x : Int32}  (H : zE none d zm_X8_cut 0 [.ref 71, .int x] [] m r h') : ∃ m1 v, r = some (.int v) ∧ h' = zhp m1 ∧ ((¬ (zBt x 0 (m 72 26)) ∧ v = -1 ∧ m1 = m) ∨ (zBt x 0 (m 72 26) ∧ v = m 72 26 ∧ m1 = zup m 72 26 x)) := by
  replace H := i_aln (q := 1) H I_X8_cut_0 rfl rfl
  replace H := i_iln (q := 2) H I_X8_cut_1 rfl rfl
  replace H := i_i2l (q := 3) H I_X8_cut_2 rfl
  replace H := i_lcst (x := 0) (q := 4) H I_X8_cut_3 (by decide) rfl
  replace H := i_aln (q := 5) H I_X8_cut_4 rfl rfl
  replace H := i_gfr (q := 8) H I_X8_cut_5 G_8_7 cn_X8_cut LY_71 rfl rfl
  replace H := i_bip (x := 26) (q := 10) H I_X8_cut_8 (by decide) rfl
  have W := i_ia (q := 11) H I_X8_cut_10 LY_72 rfl
  clear H
  obtain ⟨i_10, bi_10, ei_10, H⟩ := W
  replace H := i_i2l (q := 12) H I_X8_cut_11 rfl
  replace H := i_in (q := 15) H I_X8_cut_12 K_8_55 rfl
  replace H := i_bip (x := 26) (q := 17) H I_X8_cut_15 (by decide) rfl
  replace H := i_iln (q := 18) H I_X8_cut_17 rfl rfl
  replace H := i_icst (x := 0) (q := 19) H I_X8_cut_18 (by decide) rfl
  have W := i_cv4 1 (q := 22) H I_X8_cut_19 K_8_161 Zm_136 rfl rfl
  clear H
  obtain ⟨r1, h1, Hc, K1, K2⟩ := W
  rcases t_X8_puts (k := 26) rfl (by omega) Hc with ⟨g1, e1, e2⟩ | ⟨g1, e1, e2⟩
  · have H := K1 _ _ e1 e2
    clear e1 e2 Hc K1 K2
    obtain ⟨hr, hh⟩ := i_ir H I_X8_cut_22
    have i1 : i_10 = 26 := (zofn (i := 26) ei_10 (by decide) (by omega)).symm
    subst i1
    rw [zin_bt (lo := 0) (hi := m 72 26) rfl (Int32.toInt_toInt64 _)] at g1
    exact ⟨_, _, hr, hh, Or.inl ⟨zif0 g1, rfl, rfl⟩⟩
  · have H := K1 _ _ e1 e2
    clear e1 e2 Hc K1 K2
    obtain ⟨hr, hh⟩ := i_ir H I_X8_cut_22
    have i1 : i_10 = 26 := (zofn (i := 26) ei_10 (by decide) (by omega)).symm
    subst i1
    rw [zin_bt (lo := 0) (hi := m 72 26) rfl (Int32.toInt_toInt64 _)] at g1
    exact ⟨_, _, hr, hh, Or.inr ⟨zif1 g1, by rw [Int32.add_zero], by rw [Int32.sub_zero]⟩⟩
theorem t_X7_forget {d : Nat} {m : zM} {r : Option Value} {h' : zHp} {x : Int32}  (H : zE none d zm_X7_forget 0 [.ref 0, .int x, .null] [] m r h') : ∃ m1 v, r = some (.int v) ∧ h' = zhp m1 ∧ ((¬ (zBt x 0 (m 40 3)) ∧ v = -1 ∧ m1 = m) ∨ (zBt x 0 (m 40 3) ∧ v = m 40 3 ∧ m1 = zup m 40 3 x)) := by
  replace H := i_iln (q := 1) H I_X7_forget_0 rfl rfl
  have W := i_if_lt (t := 15) (q := 4) H I_X7_forget_1 (by decide) rfl
  clear H
  rcases W with ⟨c_1, H⟩ | ⟨c_1, H⟩
  · skip
    replace H := i_icst (x := (-1)) (q := 16) H I_X7_forget_15 (by decide) rfl
    obtain ⟨hr, hh⟩ := i_ir H I_X7_forget_16
    exact ⟨_, _, hr, hh, Or.inl ⟨fun w => w.1 c_1, rfl, rfl⟩⟩
  · skip
    replace H := i_iln (q := 5) H I_X7_forget_4 rfl rfl
    replace H := i_aln (q := 6) H I_X7_forget_5 rfl rfl
    replace H := i_gfr (q := 9) H I_X7_forget_6 G_7_40 cn_X7_forget LY_0 rfl rfl
    replace H := i_gfi (q := 12) H I_X7_forget_9 G_7_81 cn_X7_forget LY_40 rfl rfl
    have W := i_ic_le (t := 17) (q := 15) H I_X7_forget_12 (by decide) rfl
    clear H
    rcases W with ⟨c_12, H⟩ | ⟨c_12, H⟩
    · skip
      replace H := i_aln (q := 18) H I_X7_forget_17 rfl rfl
      replace H := i_gfr (q := 21) H I_X7_forget_18 G_7_40 cn_X7_forget LY_0 rfl rfl
      replace H := i_gfi (q := 24) H I_X7_forget_21 G_7_81 cn_X7_forget LY_40 rfl rfl
      replace H := i_isn (q := 25) H I_X7_forget_24 rfl rfl
      replace H := i_aln (q := 26) H I_X7_forget_25 rfl rfl
      replace H := i_gfr (q := 29) H I_X7_forget_26 G_7_40 cn_X7_forget LY_0 rfl rfl
      replace H := i_iln (q := 30) H I_X7_forget_29 rfl rfl
      replace H := i_pf (q := 33) H I_X7_forget_30 G_7_81 cn_X7_forget LY_40 rfl rfl
      replace H := i_iln (q := 34) H I_X7_forget_33 rfl rfl
      obtain ⟨hr, hh⟩ := i_ir H I_X7_forget_34
      exact ⟨_, _, hr, hh, Or.inr ⟨⟨c_1, c_12⟩, rfl, rfl⟩⟩
    · skip
      replace H := i_icst (x := (-1)) (q := 16) H I_X7_forget_15 (by decide) rfl
      obtain ⟨hr, hh⟩ := i_ir H I_X7_forget_16
      exact ⟨_, _, hr, hh, Or.inl ⟨fun w => w.2 c_12, rfl, rfl⟩⟩
theorem t_X8_forget {d : Nat} {m : zM} {r : Option Value} {h' : zHp} {x : Int32}  (H : zE none d zm_X8_forget 0 [.ref 71, .int x, .null] [] m r h') : ∃ m1 v, r = some (.int v) ∧ h' = zhp m1 ∧ ((¬ (zBt x 0 (m 71 23)) ∧ v = -1 ∧ m1 = m) ∨ (zBt x 0 (m 71 23) ∧ v = m 71 23 ∧ m1 = zup m 71 23 x)) := by
  replace H := i_iln (q := 1) H I_X8_forget_0 rfl rfl
  replace H := i_i2l (q := 2) H I_X8_forget_1 rfl
  replace H := i_lcst (x := 0) (q := 3) H I_X8_forget_2 (by decide) rfl
  replace H := i_aln (q := 4) H I_X8_forget_3 rfl rfl
  replace H := i_gfi (q := 7) H I_X8_forget_4 G_8_134 cn_X8_forget LY_71 rfl rfl
  replace H := i_i2l (q := 8) H I_X8_forget_7 rfl
  replace H := i_in (q := 11) H I_X8_forget_8 K_8_55 rfl
  have W := i_if_ne (t := 16) (q := 14) H I_X8_forget_11 (by decide) rfl
  clear H
  rcases W with ⟨c_11, H⟩ | ⟨c_11, H⟩
  · skip
    replace H := i_aln (q := 17) H I_X8_forget_16 rfl rfl
    replace H := i_gfi (q := 20) H I_X8_forget_17 G_8_134 cn_X8_forget LY_71 rfl rfl
    replace H := i_isn (q := 21) H I_X8_forget_20 rfl rfl
    replace H := i_aln (q := 22) H I_X8_forget_21 rfl rfl
    replace H := i_iln (q := 23) H I_X8_forget_22 rfl rfl
    replace H := i_pf (q := 26) H I_X8_forget_23 G_8_134 cn_X8_forget LY_71 rfl rfl
    replace H := i_iln (q := 27) H I_X8_forget_26 rfl rfl
    obtain ⟨hr, hh⟩ := i_ir H I_X8_forget_27
    rw [zin_bt (lo := 0) (hi := m 71 23) rfl (Int32.toInt_toInt64 _)] at c_11
    exact ⟨_, _, hr, hh, Or.inr ⟨zif1 c_11, rfl, rfl⟩⟩
  · skip
    replace H := i_icst (x := (-1)) (q := 15) H I_X8_forget_14 (by decide) rfl
    obtain ⟨hr, hh⟩ := i_ir H I_X8_forget_15
    rw [zin_bt (lo := 0) (hi := m 71 23) rfl (Int32.toInt_toInt64 _)] at c_11
    exact ⟨_, _, hr, hh, Or.inl ⟨zif0 c_11, rfl, rfl⟩⟩
theorem t_X0_has {d : Nat} {m : zM} {r : Option Value} {h' : zHp} {k : Nat} {x : Int32} (hk : zlk6 k) (H : zE none d zm_X0_has 0 [.ref k, .int x] [] m r h') : r = some (.int (if ¬ x < 0 ∧ x < m k 2 then 1 else 0)) ∧ h' = zhp m := by
  replace H := i_iln (q := 1) H I_X0_has_0 rfl rfl
  have W := i_if_lt (t := 16) (q := 4) H I_X0_has_1 (by decide) rfl
  clear H
  rcases W with ⟨c_1, H⟩ | ⟨c_1, H⟩
  · skip
    replace H := i_icst (x := 0) (q := 17) H I_X0_has_16 (by decide) rfl
    obtain ⟨hr, hh⟩ := i_ir H I_X0_has_17
    refine ⟨hr.trans ?_, hh⟩
    simp [*]
  · skip
    replace H := i_iln (q := 5) H I_X0_has_4 rfl rfl
    replace H := i_aln (q := 6) H I_X0_has_5 rfl rfl
    replace H := i_gfi (q := 9) H I_X0_has_6 G_0_26 cn_X0_has (lk_0 hk) rfl rfl
    have W := i_ic_ge (t := 16) (q := 12) H I_X0_has_9 (by decide) rfl
    clear H
    rcases W with ⟨c_9, H⟩ | ⟨c_9, H⟩
    · skip
      replace H := i_icst (x := 0) (q := 17) H I_X0_has_16 (by decide) rfl
      obtain ⟨hr, hh⟩ := i_ir H I_X0_has_17
      refine ⟨hr.trans ?_, hh⟩
      simp [*]
    · skip
      replace H := i_icst (x := 1) (q := 13) H I_X0_has_12 (by decide) rfl
      replace H := i_goto (q := 17) H I_X0_has_13 (by decide)
      obtain ⟨hr, hh⟩ := i_ir H I_X0_has_17
      refine ⟨hr.trans ?_, hh⟩
      simp [*]
theorem t_X0_hasAll {d : Nat} {m : zM} {r : Option Value} {h' : zHp} {k : Nat} {x : Int32} (hk : zlk6 k) (H : zE none d zm_X0_hasAll 0 [.ref k, .int x] [] m r h') : r = some (.int (if 0 < x ∧ x < (1 : Int32) <<< (m k 2 &&& 31) then 1 else 0)) ∧ h' = zhp m := by
  replace H := i_iln (q := 1) H I_X0_hasAll_0 rfl rfl
  have W := i_if_le (t := 18) (q := 4) H I_X0_hasAll_1 (by decide) rfl
  clear H
  rcases W with ⟨c_1, H⟩ | ⟨c_1, H⟩
  · skip
    replace H := i_icst (x := 0) (q := 19) H I_X0_hasAll_18 (by decide) rfl
    obtain ⟨hr, hh⟩ := i_ir H I_X0_hasAll_19
    refine ⟨hr.trans ?_, hh⟩
    simp [*]
  · skip
    replace H := i_iln (q := 5) H I_X0_hasAll_4 rfl rfl
    replace H := i_icst (x := 1) (q := 6) H I_X0_hasAll_5 (by decide) rfl
    replace H := i_aln (q := 7) H I_X0_hasAll_6 rfl rfl
    replace H := i_gfi (q := 10) H I_X0_hasAll_7 G_0_26 cn_X0_hasAll (lk_0 hk) rfl rfl
    replace H := i_ishl (q := 11) H I_X0_hasAll_10 rfl
    have W := i_ic_ge (t := 18) (q := 14) H I_X0_hasAll_11 (by decide) rfl
    clear H
    rcases W with ⟨c_11, H⟩ | ⟨c_11, H⟩
    · skip
      replace H := i_icst (x := 0) (q := 19) H I_X0_hasAll_18 (by decide) rfl
      obtain ⟨hr, hh⟩ := i_ir H I_X0_hasAll_19
      refine ⟨hr.trans ?_, hh⟩
      simp [*]
    · skip
      replace H := i_icst (x := 1) (q := 15) H I_X0_hasAll_14 (by decide) rfl
      replace H := i_goto (q := 19) H I_X0_hasAll_15 (by decide)
      obtain ⟨hr, hh⟩ := i_ir H I_X0_hasAll_19
      refine ⟨hr.trans ?_, hh⟩
      simp [*]
theorem t_X8_all {d : Nat} {m : zM} {r : Option Value} {h' : zHp}   (H : zE none d zm_X8_all 0 [.ref 71] [] m r h') : r = some (.int ((1 : Int32) <<< (m 71 2 &&& 31) - 1)) ∧ h' = zhp m := by
  replace H := i_icst (x := 1) (q := 1) H I_X8_all_0 (by decide) rfl
  replace H := i_aln (q := 2) H I_X8_all_1 rfl rfl
  replace H := i_gfi (q := 5) H I_X8_all_2 G_8_131 cn_X8_all LY_71 rfl rfl
  replace H := i_ishl (q := 6) H I_X8_all_5 rfl
  replace H := i_icst (x := 1) (q := 7) H I_X8_all_6 (by decide) rfl
  replace H := i_isub (q := 8) H I_X8_all_7 rfl
  obtain ⟨hr, hh⟩ := i_ir H I_X8_all_8
  exact ⟨hr, hh⟩
theorem t_X8_isOne {d : Nat} {m : zM} {r : Option Value} {h' : zHp} {x : Int32} {c : Nat} (hc : m 71 2 = Int32.ofNat c) (hc5 : c ≤ 5) (H : zE none d zm_X8_isOne 0 [.ref 71, .int x] [] m r h') : r = some (.int (if ¬ x < 0 ∧ x < m 71 2 then 1 else 0)) ∧ h' = zhp m := by
  replace H := i_iln (q := 1) H I_X8_isOne_0 rfl rfl
  replace H := i_i2l (q := 2) H I_X8_isOne_1 rfl
  replace H := i_lcst (x := 0) (q := 3) H I_X8_isOne_2 (by decide) rfl
  replace H := i_aln (q := 4) H I_X8_isOne_3 rfl rfl
  replace H := i_gfi (q := 7) H I_X8_isOne_4 G_8_131 cn_X8_isOne LY_71 rfl rfl
  replace H := i_icst (x := 1) (q := 8) H I_X8_isOne_7 (by decide) rfl
  replace H := i_isub (q := 9) H I_X8_isOne_8 rfl
  replace H := i_i2l (q := 10) H I_X8_isOne_9 rfl
  replace H := i_in (q := 13) H I_X8_isOne_10 K_8_55 rfl
  obtain ⟨hr, hh⟩ := i_ir H I_X8_isOne_13
  refine ⟨hr.trans ?_, hh⟩
  rw [zin_lt0 hc (by omega) rfl]
theorem zsh_c : ∀ c, c ≤ 5 → (1 : Int32) <<< (Int32.ofNat c &&& 31) = Int32.ofNat (2 ^ c) ∧ 2 ^ c ≤ 32 ∧ 1 ≤ 2 ^ c := by decide
theorem zin_all {x y : Int32} {c : Nat} (hy : y = Int32.ofNat c) (hc : c ≤ 5) {a : Int64} (ha : a.toInt = 0) : zin64 x.toInt64 a ((1 : Int32) <<< (y &&& 31) - 1).toInt64 = if ¬ x < 0 ∧ x < (1 : Int32) <<< (y &&& 31) then 1 else 0 := by
  obtain ⟨e1, e2, e3⟩ := zsh_c c hc
  rw [hy]
  exact zin_lt0 e1 (by omega) ha
theorem zps0 {x : Int32} : 0 < x ↔ ¬ x < 0 ∧ ¬ x = 0 := by
  rw [Int32.lt_iff_toInt_lt, Int32.lt_iff_toInt_lt]
  have e0 : (0 : Int32).toInt = 0 := rfl
  constructor
  · intro h
    exact ⟨by omega, fun e => by rw [e] at h; omega⟩
  · intro h
    have : ¬ x.toInt = 0 := fun e => h.2 (Int32.toInt_inj.mp (e.trans e0.symm))
    omega
/-- an act of ones that there are -/
abbrev zAo (x y : Int32) : Prop := ¬ x < 0 ∧ x < (1 : Int32) <<< (y &&& 31)
theorem t_X7_plan {d : Nat} {m : zM} {r : Option Value} {h' : zHp} {x : Int32} {c a : Nat} (hc : m 11 2 = Int32.ofNat c) (hc5 : c ≤ 5) (ha : m 11 3 = Int32.ofNat a) (ha8 : a ≤ 8) (H : zE none d zm_X7_plan 0 [.ref 0, .int x] [] m r h') : ∃ m1 v, r = some (.int v) ∧ h' = zhp m1 ∧ ((¬ zAo x (m 11 2) ∧ v = -1 ∧ m1 = m) ∨ (zAo x (m 11 2) ∧ a = 8 ∧ v = -3 ∧ m1 = m) ∨ (zAo x (m 11 2) ∧ a < 8 ∧ v = Int32.ofNat (a + 1) ∧ m1 = zup (zup m 13 a x) 11 3 (Int32.ofNat (a + 1)))) := by
  replace H := i_iln (q := 1) H I_X7_plan_0 rfl rfl
  have W := i_if_eq (t := 17) (q := 4) H I_X7_plan_1 (by decide) rfl
  clear H
  rcases W with ⟨c_1, H⟩ | ⟨c_1, H⟩
  · skip
    replace H := i_aln (q := 18) H I_X7_plan_17 rfl rfl
    replace H := i_gfr (q := 21) H I_X7_plan_18 G_7_19 cn_X7_plan LY_0 rfl rfl
    replace H := i_gfi (q := 24) H I_X7_plan_21 G_7_99 cn_X7_plan LY_11 rfl rfl
    replace H := i_bip (x := 8) (q := 26) H I_X7_plan_24 (by decide) rfl
    have W := i_ic_lt (t := 32) (q := 29) H I_X7_plan_26 (by decide) rfl
    clear H
    rcases W with ⟨c_26, H⟩ | ⟨c_26, H⟩
    · skip
      replace H := i_aln (q := 33) H I_X7_plan_32 rfl rfl
      replace H := i_gfr (q := 36) H I_X7_plan_33 G_7_19 cn_X7_plan LY_0 rfl rfl
      replace H := i_gfr (q := 39) H I_X7_plan_36 G_7_140 cn_X7_plan LY_11 rfl rfl
      replace H := i_aln (q := 40) H I_X7_plan_39 rfl rfl
      replace H := i_gfr (q := 43) H I_X7_plan_40 G_7_19 cn_X7_plan LY_0 rfl rfl
      replace H := i_gfi (q := 46) H I_X7_plan_43 G_7_99 cn_X7_plan LY_11 rfl rfl
      replace H := i_iln (q := 47) H I_X7_plan_46 rfl rfl
      have W := i_iast (q := 48) H I_X7_plan_47 LY_13 rfl
      clear H
      obtain ⟨i_47, bi_47, ei_47, H⟩ := W
      replace H := i_aln (q := 49) H I_X7_plan_48 rfl rfl
      replace H := i_gfr (q := 52) H I_X7_plan_49 G_7_19 cn_X7_plan LY_0 rfl rfl
      replace H := i_dup (q := 53) H I_X7_plan_52 rfl rfl
      replace H := i_gfi (q := 56) H I_X7_plan_53 G_7_99 cn_X7_plan LY_11 rfl rfl
      replace H := i_icst (x := 1) (q := 57) H I_X7_plan_56 (by decide) rfl
      replace H := i_iadd (q := 58) H I_X7_plan_57 rfl
      replace H := i_pf (q := 61) H I_X7_plan_58 G_7_99 cn_X7_plan LY_11 rfl rfl
      replace H := i_aln (q := 62) H I_X7_plan_61 rfl rfl
      replace H := i_gfr (q := 65) H I_X7_plan_62 G_7_19 cn_X7_plan LY_0 rfl rfl
      replace H := i_gfi (q := 68) H I_X7_plan_65 G_7_99 cn_X7_plan LY_11 rfl rfl
      obtain ⟨hr, hh⟩ := i_ir H I_X7_plan_68
      have hok : zAo x (m 11 2) := by
        obtain ⟨e1, e2, e3⟩ := zsh_c c hc5
        rw [c_1]
        refine ⟨by decide, ?_⟩
        rw [hc, e1]
        exact (zofn_lt (i := 0) (by decide) (by omega)).mpr (by omega)
      rw [ha] at c_26
      have h8 : a < 8 := (zofn_lt (i := a) (j := 8) (by omega) (by decide)).mp c_26
      have i1 : a = i_47 := zofn (ha.symm.trans ei_47) (by omega) (by omega)
      subst i1
      rw [zup_s, zup_n (by omega), ha, zofn_1] at hr
      rw [zup_n (by omega), ha, zofn_1] at hh
      exact ⟨_, _, hr, hh, Or.inr (Or.inr ⟨hok, h8, rfl, rfl⟩)⟩
    · skip
      replace H := i_bip (x := (-3)) (q := 31) H I_X7_plan_29 (by decide) rfl
      obtain ⟨hr, hh⟩ := i_ir H I_X7_plan_31
      have hok : zAo x (m 11 2) := by
        obtain ⟨e1, e2, e3⟩ := zsh_c c hc5
        rw [c_1]
        refine ⟨by decide, ?_⟩
        rw [hc, e1]
        exact (zofn_lt (i := 0) (by decide) (by omega)).mpr (by omega)
      rw [ha] at c_26
      have h8 : a = 8 := by
        have := mt (zofn_lt (i := a) (j := 8) (by omega) (by decide)).mpr c_26
        omega
      exact ⟨_, _, hr, hh, Or.inr (Or.inl ⟨hok, h8, rfl, rfl⟩)⟩
  · skip
    replace H := i_aln (q := 5) H I_X7_plan_4 rfl rfl
    replace H := i_gfr (q := 8) H I_X7_plan_5 G_7_19 cn_X7_plan LY_0 rfl rfl
    replace H := i_iln (q := 9) H I_X7_plan_8 rfl rfl
    have W := i_cv1 0 (q := 12) H I_X7_plan_9 K_7_152 Zm_4 rfl rfl
    clear H
    obtain ⟨r1, h1, Hc, K1, K2⟩ := W
    obtain ⟨e1, e2⟩ := t_X0_hasAll lkk_11 Hc
    have H := K1 _ _ e1 e2
    clear e1 e2 Hc K1 K2
    have W := i_if_ne (t := 17) (q := 15) H I_X7_plan_12 (by decide) rfl
    clear H
    rcases W with ⟨c_12, H⟩ | ⟨c_12, H⟩
    · skip
      replace H := i_aln (q := 18) H I_X7_plan_17 rfl rfl
      replace H := i_gfr (q := 21) H I_X7_plan_18 G_7_19 cn_X7_plan LY_0 rfl rfl
      replace H := i_gfi (q := 24) H I_X7_plan_21 G_7_99 cn_X7_plan LY_11 rfl rfl
      replace H := i_bip (x := 8) (q := 26) H I_X7_plan_24 (by decide) rfl
      have W := i_ic_lt (t := 32) (q := 29) H I_X7_plan_26 (by decide) rfl
      clear H
      rcases W with ⟨c_26, H⟩ | ⟨c_26, H⟩
      · skip
        replace H := i_aln (q := 33) H I_X7_plan_32 rfl rfl
        replace H := i_gfr (q := 36) H I_X7_plan_33 G_7_19 cn_X7_plan LY_0 rfl rfl
        replace H := i_gfr (q := 39) H I_X7_plan_36 G_7_140 cn_X7_plan LY_11 rfl rfl
        replace H := i_aln (q := 40) H I_X7_plan_39 rfl rfl
        replace H := i_gfr (q := 43) H I_X7_plan_40 G_7_19 cn_X7_plan LY_0 rfl rfl
        replace H := i_gfi (q := 46) H I_X7_plan_43 G_7_99 cn_X7_plan LY_11 rfl rfl
        replace H := i_iln (q := 47) H I_X7_plan_46 rfl rfl
        have W := i_iast (q := 48) H I_X7_plan_47 LY_13 rfl
        clear H
        obtain ⟨i_47, bi_47, ei_47, H⟩ := W
        replace H := i_aln (q := 49) H I_X7_plan_48 rfl rfl
        replace H := i_gfr (q := 52) H I_X7_plan_49 G_7_19 cn_X7_plan LY_0 rfl rfl
        replace H := i_dup (q := 53) H I_X7_plan_52 rfl rfl
        replace H := i_gfi (q := 56) H I_X7_plan_53 G_7_99 cn_X7_plan LY_11 rfl rfl
        replace H := i_icst (x := 1) (q := 57) H I_X7_plan_56 (by decide) rfl
        replace H := i_iadd (q := 58) H I_X7_plan_57 rfl
        replace H := i_pf (q := 61) H I_X7_plan_58 G_7_99 cn_X7_plan LY_11 rfl rfl
        replace H := i_aln (q := 62) H I_X7_plan_61 rfl rfl
        replace H := i_gfr (q := 65) H I_X7_plan_62 G_7_19 cn_X7_plan LY_0 rfl rfl
        replace H := i_gfi (q := 68) H I_X7_plan_65 G_7_99 cn_X7_plan LY_11 rfl rfl
        obtain ⟨hr, hh⟩ := i_ir H I_X7_plan_68
        have hok : zAo x (m 11 2) := by
          obtain ⟨e1, e2, e3⟩ := zsh_c c hc5
          have h1 := zif1 c_12
          exact ⟨(zps0.mp h1.1).1, h1.2⟩
        rw [ha] at c_26
        have h8 : a < 8 := (zofn_lt (i := a) (j := 8) (by omega) (by decide)).mp c_26
        have i1 : a = i_47 := zofn (ha.symm.trans ei_47) (by omega) (by omega)
        subst i1
        rw [zup_s, zup_n (by omega), ha, zofn_1] at hr
        rw [zup_n (by omega), ha, zofn_1] at hh
        exact ⟨_, _, hr, hh, Or.inr (Or.inr ⟨hok, h8, rfl, rfl⟩)⟩
      · skip
        replace H := i_bip (x := (-3)) (q := 31) H I_X7_plan_29 (by decide) rfl
        obtain ⟨hr, hh⟩ := i_ir H I_X7_plan_31
        have hok : zAo x (m 11 2) := by
          obtain ⟨e1, e2, e3⟩ := zsh_c c hc5
          have h1 := zif1 c_12
          exact ⟨(zps0.mp h1.1).1, h1.2⟩
        rw [ha] at c_26
        have h8 : a = 8 := by
          have := mt (zofn_lt (i := a) (j := 8) (by omega) (by decide)).mpr c_26
          omega
        exact ⟨_, _, hr, hh, Or.inr (Or.inl ⟨hok, h8, rfl, rfl⟩)⟩
    · skip
      replace H := i_icst (x := (-1)) (q := 16) H I_X7_plan_15 (by decide) rfl
      obtain ⟨hr, hh⟩ := i_ir H I_X7_plan_16
      have h1 := zif0 c_12
      refine ⟨_, _, hr, hh, Or.inl ⟨fun w => h1 ⟨zps0.mpr ⟨w.1, c_1⟩, w.2⟩, rfl, rfl⟩⟩
theorem t_X8_plan {d : Nat} {m : zM} {r : Option Value} {h' : zHp} {x : Int32} {c a : Nat} (hc : m 71 2 = Int32.ofNat c) (hc5 : c ≤ 5) (ha : m 72 26 = Int32.ofNat a) (ha8 : a ≤ 8) (H : zE none d zm_X8_plan 0 [.ref 71, .int x] [] m r h') : ∃ m1 v, r = some (.int v) ∧ h' = zhp m1 ∧ ((¬ zAo x (m 71 2) ∧ v = -1 ∧ m1 = m) ∨ (zAo x (m 71 2) ∧ a = 8 ∧ v = -3 ∧ m1 = m) ∨ (zAo x (m 71 2) ∧ a < 8 ∧ v = Int32.ofNat (a + 1) ∧ m1 = zup (zup m 72 (18 + a) x) 72 26 (Int32.ofNat (a + 1)))) := by
  replace H := i_iln (q := 1) H I_X8_plan_0 rfl rfl
  replace H := i_i2l (q := 2) H I_X8_plan_1 rfl
  replace H := i_lcst (x := 0) (q := 3) H I_X8_plan_2 (by decide) rfl
  replace H := i_aln (q := 4) H I_X8_plan_3 rfl rfl
  have W := i_cv0 0 (q := 7) H I_X8_plan_4 K_8_167 Zm_139 rfl rfl
  clear H
  obtain ⟨r1, h1, Hc, K1, K2⟩ := W
  obtain ⟨e1, e2⟩ := t_X8_all Hc
  have H := K1 _ _ e1 e2
  clear e1 e2 Hc K1 K2
  replace H := i_i2l (q := 8) H I_X8_plan_7 rfl
  replace H := i_in (q := 11) H I_X8_plan_8 K_8_55 rfl
  have W := i_if_ne (t := 16) (q := 14) H I_X8_plan_11 (by decide) rfl
  clear H
  rcases W with ⟨c_11, H⟩ | ⟨c_11, H⟩
  · skip
    replace H := i_aln (q := 17) H I_X8_plan_16 rfl rfl
    replace H := i_gfr (q := 20) H I_X8_plan_17 G_8_7 cn_X8_plan LY_71 rfl rfl
    replace H := i_bip (x := 26) (q := 22) H I_X8_plan_20 (by decide) rfl
    have W := i_ia (q := 23) H I_X8_plan_22 LY_72 rfl
    clear H
    obtain ⟨i_22, bi_22, ei_22, H⟩ := W
    replace H := i_bip (x := 8) (q := 25) H I_X8_plan_23 (by decide) rfl
    have W := i_ic_ne (t := 31) (q := 28) H I_X8_plan_25 (by decide) rfl
    clear H
    rcases W with ⟨c_25, H⟩ | ⟨c_25, H⟩
    · skip
      replace H := i_aln (q := 32) H I_X8_plan_31 rfl rfl
      replace H := i_gfr (q := 35) H I_X8_plan_32 G_8_7 cn_X8_plan LY_71 rfl rfl
      replace H := i_bip (x := 18) (q := 37) H I_X8_plan_35 (by decide) rfl
      replace H := i_aln (q := 38) H I_X8_plan_37 rfl rfl
      replace H := i_gfr (q := 41) H I_X8_plan_38 G_8_7 cn_X8_plan LY_71 rfl rfl
      replace H := i_bip (x := 26) (q := 43) H I_X8_plan_41 (by decide) rfl
      have W := i_ia (q := 44) H I_X8_plan_43 LY_72 rfl
      clear H
      obtain ⟨i_43, bi_43, ei_43, H⟩ := W
      replace H := i_iadd (q := 45) H I_X8_plan_44 rfl
      replace H := i_iln (q := 46) H I_X8_plan_45 rfl rfl
      have W := i_iast (q := 47) H I_X8_plan_46 LY_72 rfl
      clear H
      obtain ⟨i_46, bi_46, ei_46, H⟩ := W
      replace H := i_aln (q := 48) H I_X8_plan_47 rfl rfl
      replace H := i_gfr (q := 51) H I_X8_plan_48 G_8_7 cn_X8_plan LY_71 rfl rfl
      replace H := i_bip (x := 26) (q := 53) H I_X8_plan_51 (by decide) rfl
      replace H := i_dup2 (q := 54) H I_X8_plan_53 rfl rfl rfl
      have W := i_ia (q := 55) H I_X8_plan_54 LY_72 rfl
      clear H
      obtain ⟨i_54, bi_54, ei_54, H⟩ := W
      replace H := i_icst (x := 1) (q := 56) H I_X8_plan_55 (by decide) rfl
      replace H := i_iadd (q := 57) H I_X8_plan_56 rfl
      have W := i_iast (q := 58) H I_X8_plan_57 LY_72 rfl
      clear H
      obtain ⟨i_57, bi_57, ei_57, H⟩ := W
      replace H := i_aln (q := 59) H I_X8_plan_58 rfl rfl
      replace H := i_gfr (q := 62) H I_X8_plan_59 G_8_7 cn_X8_plan LY_71 rfl rfl
      replace H := i_bip (x := 26) (q := 64) H I_X8_plan_62 (by decide) rfl
      have W := i_ia (q := 65) H I_X8_plan_64 LY_72 rfl
      clear H
      obtain ⟨i_64, bi_64, ei_64, H⟩ := W
      obtain ⟨hr, hh⟩ := i_ir H I_X8_plan_65
      rw [zin_all hc hc5 rfl] at c_11
      have hok := zif1 c_11
      have i1 : i_22 = 26 := (zofn (i := 26) ei_22 (by decide) (by omega)).symm
      subst i1
      rw [ha] at c_25
      have h8 : a < 8 := by
        rcases Nat.lt_or_ge a 8 with w | w
        · exact w
        · exact absurd (show Int32.ofNat a = 8 by rw [show a = 8 by omega]; rfl) c_25
      have i2 : i_43 = 26 := (zofn (i := 26) ei_43 (by decide) (by omega)).symm
      subst i2
      have i3 : i_46 = 18 + a := zix_add (k := 18) rfl ha ei_46 (by omega) (by omega)
      subst i3
      have i4 : i_54 = 26 := (zofn (i := 26) ei_54 (by decide) (by omega)).symm
      subst i4
      have i5 : i_57 = 26 := (zofn (i := 26) ei_57 (by decide) (by omega)).symm
      subst i5
      have i6 : i_64 = 26 := (zofn (i := 26) ei_64 (by decide) (by omega)).symm
      subst i6
      rw [zup_n (show ¬ (72 = 72 ∧ 26 = 18 + a) by omega), ha, zofn_1] at hr hh
      rw [zup_s] at hr
      exact ⟨_, _, hr, hh, Or.inr (Or.inr ⟨hok, h8, rfl, rfl⟩)⟩
    · skip
      replace H := i_bip (x := (-3)) (q := 30) H I_X8_plan_28 (by decide) rfl
      obtain ⟨hr, hh⟩ := i_ir H I_X8_plan_30
      rw [zin_all hc hc5 rfl] at c_11
      have hok := zif1 c_11
      have i1 : i_22 = 26 := (zofn (i := 26) ei_22 (by decide) (by omega)).symm
      subst i1
      rw [ha] at c_25
      have h8 : a = 8 := zofn (j := 8) c_25 (by omega) (by decide)
      exact ⟨_, _, hr, hh, Or.inr (Or.inl ⟨hok, h8, rfl, rfl⟩)⟩
  · skip
    replace H := i_icst (x := (-1)) (q := 15) H I_X8_plan_14 (by decide) rfl
    obtain ⟨hr, hh⟩ := i_ir H I_X8_plan_15
    rw [zin_all hc hc5 rfl] at c_11
    exact ⟨_, _, hr, hh, Or.inl ⟨zif0 c_11, rfl, rfl⟩⟩
