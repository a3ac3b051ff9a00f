section
/-! slack, act, plan, cut, forget -/
theorem It_X0_has : zm_X0_has.2.2.2.2.2 = zt_X0_has := by
  unfold zm_X0_has
  rfl
theorem It_X0_hasAll : zm_X0_hasAll.2.2.2.2.2 = zt_X0_hasAll := by
  unfold zm_X0_hasAll
  rfl
theorem It_X7_act : zm_X7_act.2.2.2.2.2 = zt_X7_act := by
  unfold zm_X7_act
  rfl
theorem It_X7_cut : zm_X7_cut.2.2.2.2.2 = zt_X7_cut := by
  unfold zm_X7_cut
  rfl
theorem It_X7_forget : zm_X7_forget.2.2.2.2.2 = zt_X7_forget := by
  unfold zm_X7_forget
  rfl
theorem It_X7_plan : zm_X7_plan.2.2.2.2.2 = zt_X7_plan := by
  unfold zm_X7_plan
  rfl
theorem It_X7_slack : zm_X7_slack.2.2.2.2.2 = zt_X7_slack := by
  unfold zm_X7_slack
  rfl
theorem It_X8_act : zm_X8_act.2.2.2.2.2 = zt_X8_act := by
  unfold zm_X8_act
  rfl
theorem It_X8_all : zm_X8_all.2.2.2.2.2 = zt_X8_all := by
  unfold zm_X8_all
  rfl
theorem It_X8_cut : zm_X8_cut.2.2.2.2.2 = zt_X8_cut := by
  unfold zm_X8_cut
  rfl
theorem It_X8_forget : zm_X8_forget.2.2.2.2.2 = zt_X8_forget := by
  unfold zm_X8_forget
  rfl
theorem It_X8_isOne : zm_X8_isOne.2.2.2.2.2 = zt_X8_isOne := by
  unfold zm_X8_isOne
  rfl
theorem It_X8_plan : zm_X8_plan.2.2.2.2.2 = zt_X8_plan := by
  unfold zm_X8_plan
  rfl
theorem It_X8_puts : zm_X8_puts.2.2.2.2.2 = zt_X8_puts := by
  unfold zm_X8_puts
  rfl
theorem It_X8_slack : zm_X8_slack.2.2.2.2.2 = zt_X8_slack := by
  unfold zm_X8_slack
  rfl
theorem I_X0_has_0 : zin zm_X0_has.2.2.2.2.2 0 = some (.iload_n 1, 1) := by rw [It_X0_has]; rfl
theorem I_X0_has_1 : zin zm_X0_has.2.2.2.2.2 1 = some (.ifCond .lt 15, 3) := by rw [It_X0_has]; rfl
theorem I_X0_has_4 : zin zm_X0_has.2.2.2.2.2 4 = some (.iload_n 1, 1) := by rw [It_X0_has]; rfl
theorem I_X0_has_5 : zin zm_X0_has.2.2.2.2.2 5 = some (.aload_n 0, 1) := by rw [It_X0_has]; rfl
theorem I_X0_has_6 : zin zm_X0_has.2.2.2.2.2 6 = some (.getfield 26, 3) := by rw [It_X0_has]; rfl
theorem I_X0_has_9 : zin zm_X0_has.2.2.2.2.2 9 = some (.if_icmp .ge 7, 3) := by rw [It_X0_has]; rfl
theorem I_X0_has_12 : zin zm_X0_has.2.2.2.2.2 12 = some (.iconst 1, 1) := by rw [It_X0_has]; rfl
theorem I_X0_has_13 : zin zm_X0_has.2.2.2.2.2 13 = some (.goto 4, 3) := by rw [It_X0_has]; rfl
theorem I_X0_has_16 : zin zm_X0_has.2.2.2.2.2 16 = some (.iconst 0, 1) := by rw [It_X0_has]; rfl
theorem I_X0_has_17 : zin zm_X0_has.2.2.2.2.2 17 = some (.ireturn, 1) := by rw [It_X0_has]; rfl
theorem I_X0_hasAll_0 : zin zm_X0_hasAll.2.2.2.2.2 0 = some (.iload_n 1, 1) := by rw [It_X0_hasAll]; rfl
theorem I_X0_hasAll_1 : zin zm_X0_hasAll.2.2.2.2.2 1 = some (.ifCond .le 17, 3) := by rw [It_X0_hasAll]; rfl
theorem I_X0_hasAll_4 : zin zm_X0_hasAll.2.2.2.2.2 4 = some (.iload_n 1, 1) := by rw [It_X0_hasAll]; rfl
theorem I_X0_hasAll_5 : zin zm_X0_hasAll.2.2.2.2.2 5 = some (.iconst 1, 1) := by rw [It_X0_hasAll]; rfl
theorem I_X0_hasAll_6 : zin zm_X0_hasAll.2.2.2.2.2 6 = some (.aload_n 0, 1) := by rw [It_X0_hasAll]; rfl
theorem I_X0_hasAll_7 : zin zm_X0_hasAll.2.2.2.2.2 7 = some (.getfield 26, 3) := by rw [It_X0_hasAll]; rfl
theorem I_X0_hasAll_10 : zin zm_X0_hasAll.2.2.2.2.2 10 = some (.ishl, 1) := by rw [It_X0_hasAll]; rfl
theorem I_X0_hasAll_11 : zin zm_X0_hasAll.2.2.2.2.2 11 = some (.if_icmp .ge 7, 3) := by rw [It_X0_hasAll]; rfl
theorem I_X0_hasAll_14 : zin zm_X0_hasAll.2.2.2.2.2 14 = some (.iconst 1, 1) := by rw [It_X0_hasAll]; rfl
theorem I_X0_hasAll_15 : zin zm_X0_hasAll.2.2.2.2.2 15 = some (.goto 4, 3) := by rw [It_X0_hasAll]; rfl
theorem I_X0_hasAll_18 : zin zm_X0_hasAll.2.2.2.2.2 18 = some (.iconst 0, 1) := by rw [It_X0_hasAll]; rfl
theorem I_X0_hasAll_19 : zin zm_X0_hasAll.2.2.2.2.2 19 = some (.ireturn, 1) := by rw [It_X0_hasAll]; rfl
theorem I_X7_act_0 : zin zm_X7_act.2.2.2.2.2 0 = some (.iload_n 1, 1) := by rw [It_X7_act]; rfl
theorem I_X7_act_1 : zin zm_X7_act.2.2.2.2.2 1 = some (.ifCond .lt 14, 3) := by rw [It_X7_act]; rfl
theorem I_X7_act_4 : zin zm_X7_act.2.2.2.2.2 4 = some (.iload_n 1, 1) := by rw [It_X7_act]; rfl
theorem I_X7_act_5 : zin zm_X7_act.2.2.2.2.2 5 = some (.aload_n 0, 1) := by rw [It_X7_act]; rfl
theorem I_X7_act_6 : zin zm_X7_act.2.2.2.2.2 6 = some (.getfield 19, 3) := by rw [It_X7_act]; rfl
theorem I_X7_act_9 : zin zm_X7_act.2.2.2.2.2 9 = some (.getfield 99, 3) := by rw [It_X7_act]; rfl
theorem I_X7_act_12 : zin zm_X7_act.2.2.2.2.2 12 = some (.if_icmp .lt 7, 3) := by rw [It_X7_act]; rfl
theorem I_X7_act_15 : zin zm_X7_act.2.2.2.2.2 15 = some (.iconst (-1), 1) := by rw [It_X7_act]; rfl
theorem I_X7_act_16 : zin zm_X7_act.2.2.2.2.2 16 = some (.goto 12, 3) := by rw [It_X7_act]; rfl
theorem I_X7_act_19 : zin zm_X7_act.2.2.2.2.2 19 = some (.aload_n 0, 1) := by rw [It_X7_act]; rfl
theorem I_X7_act_20 : zin zm_X7_act.2.2.2.2.2 20 = some (.getfield 19, 3) := by rw [It_X7_act]; rfl
theorem I_X7_act_23 : zin zm_X7_act.2.2.2.2.2 23 = some (.getfield 140, 3) := by rw [It_X7_act]; rfl
theorem I_X7_act_26 : zin zm_X7_act.2.2.2.2.2 26 = some (.iload_n 1, 1) := by rw [It_X7_act]; rfl
theorem I_X7_act_27 : zin zm_X7_act.2.2.2.2.2 27 = some (.iaload, 1) := by rw [It_X7_act]; rfl
theorem I_X7_act_28 : zin zm_X7_act.2.2.2.2.2 28 = some (.ireturn, 1) := by rw [It_X7_act]; rfl
theorem I_X7_cut_0 : zin zm_X7_cut.2.2.2.2.2 0 = some (.iload_n 1, 1) := by rw [It_X7_cut]; rfl
theorem I_X7_cut_1 : zin zm_X7_cut.2.2.2.2.2 1 = some (.ifCond .lt 14, 3) := by rw [It_X7_cut]; rfl
theorem I_X7_cut_4 : zin zm_X7_cut.2.2.2.2.2 4 = some (.iload_n 1, 1) := by rw [It_X7_cut]; rfl
theorem I_X7_cut_5 : zin zm_X7_cut.2.2.2.2.2 5 = some (.aload_n 0, 1) := by rw [It_X7_cut]; rfl
theorem I_X7_cut_6 : zin zm_X7_cut.2.2.2.2.2 6 = some (.getfield 19, 3) := by rw [It_X7_cut]; rfl
theorem I_X7_cut_9 : zin zm_X7_cut.2.2.2.2.2 9 = some (.getfield 99, 3) := by rw [It_X7_cut]; rfl
theorem I_X7_cut_12 : zin zm_X7_cut.2.2.2.2.2 12 = some (.if_icmp .le 5, 3) := by rw [It_X7_cut]; rfl
theorem I_X7_cut_15 : zin zm_X7_cut.2.2.2.2.2 15 = some (.iconst (-1), 1) := by rw [It_X7_cut]; rfl
theorem I_X7_cut_16 : zin zm_X7_cut.2.2.2.2.2 16 = some (.ireturn, 1) := by rw [It_X7_cut]; rfl
theorem I_X7_cut_17 : zin zm_X7_cut.2.2.2.2.2 17 = some (.aload_n 0, 1) := by rw [It_X7_cut]; rfl
theorem I_X7_cut_18 : zin zm_X7_cut.2.2.2.2.2 18 = some (.getfield 19, 3) := by rw [It_X7_cut]; rfl
theorem I_X7_cut_21 : zin zm_X7_cut.2.2.2.2.2 21 = some (.getfield 99, 3) := by rw [It_X7_cut]; rfl
theorem I_X7_cut_24 : zin zm_X7_cut.2.2.2.2.2 24 = some (.istore_n 2, 1) := by rw [It_X7_cut]; rfl
theorem I_X7_cut_25 : zin zm_X7_cut.2.2.2.2.2 25 = some (.aload_n 0, 1) := by rw [It_X7_cut]; rfl
theorem I_X7_cut_26 : zin zm_X7_cut.2.2.2.2.2 26 = some (.getfield 19, 3) := by rw [It_X7_cut]; rfl
theorem I_X7_cut_29 : zin zm_X7_cut.2.2.2.2.2 29 = some (.iload_n 1, 1) := by rw [It_X7_cut]; rfl
theorem I_X7_cut_30 : zin zm_X7_cut.2.2.2.2.2 30 = some (.putfield 99, 3) := by rw [It_X7_cut]; rfl
theorem I_X7_cut_33 : zin zm_X7_cut.2.2.2.2.2 33 = some (.iload_n 2, 1) := by rw [It_X7_cut]; rfl
theorem I_X7_cut_34 : zin zm_X7_cut.2.2.2.2.2 34 = some (.ireturn, 1) := by rw [It_X7_cut]; rfl
theorem I_X7_forget_0 : zin zm_X7_forget.2.2.2.2.2 0 = some (.iload_n 1, 1) := by rw [It_X7_forget]; rfl
theorem I_X7_forget_1 : zin zm_X7_forget.2.2.2.2.2 1 = some (.ifCond .lt 14, 3) := by rw [It_X7_forget]; rfl
theorem I_X7_forget_4 : zin zm_X7_forget.2.2.2.2.2 4 = some (.iload_n 1, 1) := by rw [It_X7_forget]; rfl
theorem I_X7_forget_5 : zin zm_X7_forget.2.2.2.2.2 5 = some (.aload_n 0, 1) := by rw [It_X7_forget]; rfl
theorem I_X7_forget_6 : zin zm_X7_forget.2.2.2.2.2 6 = some (.getfield 40, 3) := by rw [It_X7_forget]; rfl
theorem I_X7_forget_9 : zin zm_X7_forget.2.2.2.2.2 9 = some (.getfield 81, 3) := by rw [It_X7_forget]; rfl
theorem I_X7_forget_12 : zin zm_X7_forget.2.2.2.2.2 12 = some (.if_icmp .le 5, 3) := by rw [It_X7_forget]; rfl
theorem I_X7_forget_15 : zin zm_X7_forget.2.2.2.2.2 15 = some (.iconst (-1), 1) := by rw [It_X7_forget]; rfl
theorem I_X7_forget_16 : zin zm_X7_forget.2.2.2.2.2 16 = some (.ireturn, 1) := by rw [It_X7_forget]; rfl
theorem I_X7_forget_17 : zin zm_X7_forget.2.2.2.2.2 17 = some (.aload_n 0, 1) := by rw [It_X7_forget]; rfl
theorem I_X7_forget_18 : zin zm_X7_forget.2.2.2.2.2 18 = some (.getfield 40, 3) := by rw [It_X7_forget]; rfl
theorem I_X7_forget_21 : zin zm_X7_forget.2.2.2.2.2 21 = some (.getfield 81, 3) := by rw [It_X7_forget]; rfl
theorem I_X7_forget_24 : zin zm_X7_forget.2.2.2.2.2 24 = some (.istore_n 2, 1) := by rw [It_X7_forget]; rfl
theorem I_X7_forget_25 : zin zm_X7_forget.2.2.2.2.2 25 = some (.aload_n 0, 1) := by rw [It_X7_forget]; rfl
theorem I_X7_forget_26 : zin zm_X7_forget.2.2.2.2.2 26 = some (.getfield 40, 3) := by rw [It_X7_forget]; rfl
theorem I_X7_forget_29 : zin zm_X7_forget.2.2.2.2.2 29 = some (.iload_n 1, 1) := by rw [It_X7_forget]; rfl
theorem I_X7_forget_30 : zin zm_X7_forget.2.2.2.2.2 30 = some (.putfield 81, 3) := by rw [It_X7_forget]; rfl
theorem I_X7_forget_33 : zin zm_X7_forget.2.2.2.2.2 33 = some (.iload_n 2, 1) := by rw [It_X7_forget]; rfl
theorem I_X7_forget_34 : zin zm_X7_forget.2.2.2.2.2 34 = some (.ireturn, 1) := by rw [It_X7_forget]; rfl
theorem I_X7_plan_0 : zin zm_X7_plan.2.2.2.2.2 0 = some (.iload_n 1, 1) := by rw [It_X7_plan]; rfl
theorem I_X7_plan_1 : zin zm_X7_plan.2.2.2.2.2 1 = some (.ifCond .eq 16, 3) := by rw [It_X7_plan]; rfl
theorem I_X7_plan_4 : zin zm_X7_plan.2.2.2.2.2 4 = some (.aload_n 0, 1) := by rw [It_X7_plan]; rfl
theorem I_X7_plan_5 : zin zm_X7_plan.2.2.2.2.2 5 = some (.getfield 19, 3) := by rw [It_X7_plan]; rfl
theorem I_X7_plan_8 : zin zm_X7_plan.2.2.2.2.2 8 = some (.iload_n 1, 1) := by rw [It_X7_plan]; rfl
theorem I_X7_plan_9 : zin zm_X7_plan.2.2.2.2.2 9 = some (.invokevirtual 152, 3) := by rw [It_X7_plan]; rfl
theorem I_X7_plan_12 : zin zm_X7_plan.2.2.2.2.2 12 = some (.ifCond .ne 5, 3) := by rw [It_X7_plan]; rfl
theorem I_X7_plan_15 : zin zm_X7_plan.2.2.2.2.2 15 = some (.iconst (-1), 1) := by rw [It_X7_plan]; rfl
theorem I_X7_plan_16 : zin zm_X7_plan.2.2.2.2.2 16 = some (.ireturn, 1) := by rw [It_X7_plan]; rfl
theorem I_X7_plan_17 : zin zm_X7_plan.2.2.2.2.2 17 = some (.aload_n 0, 1) := by rw [It_X7_plan]; rfl
theorem I_X7_plan_18 : zin zm_X7_plan.2.2.2.2.2 18 = some (.getfield 19, 3) := by rw [It_X7_plan]; rfl
theorem I_X7_plan_21 : zin zm_X7_plan.2.2.2.2.2 21 = some (.getfield 99, 3) := by rw [It_X7_plan]; rfl
theorem I_X7_plan_24 : zin zm_X7_plan.2.2.2.2.2 24 = some (.bipush 8, 2) := by rw [It_X7_plan]; rfl
theorem I_X7_plan_26 : zin zm_X7_plan.2.2.2.2.2 26 = some (.if_icmp .lt 6, 3) := by rw [It_X7_plan]; rfl
theorem I_X7_plan_29 : zin zm_X7_plan.2.2.2.2.2 29 = some (.bipush (-3), 2) := by rw [It_X7_plan]; rfl
theorem I_X7_plan_31 : zin zm_X7_plan.2.2.2.2.2 31 = some (.ireturn, 1) := by rw [It_X7_plan]; rfl
theorem I_X7_plan_32 : zin zm_X7_plan.2.2.2.2.2 32 = some (.aload_n 0, 1) := by rw [It_X7_plan]; rfl
theorem I_X7_plan_33 : zin zm_X7_plan.2.2.2.2.2 33 = some (.getfield 19, 3) := by rw [It_X7_plan]; rfl
theorem I_X7_plan_36 : zin zm_X7_plan.2.2.2.2.2 36 = some (.getfield 140, 3) := by rw [It_X7_plan]; rfl
theorem I_X7_plan_39 : zin zm_X7_plan.2.2.2.2.2 39 = some (.aload_n 0, 1) := by rw [It_X7_plan]; rfl
theorem I_X7_plan_40 : zin zm_X7_plan.2.2.2.2.2 40 = some (.getfield 19, 3) := by rw [It_X7_plan]; rfl
theorem I_X7_plan_43 : zin zm_X7_plan.2.2.2.2.2 43 = some (.getfield 99, 3) := by rw [It_X7_plan]; rfl
theorem I_X7_plan_46 : zin zm_X7_plan.2.2.2.2.2 46 = some (.iload_n 1, 1) := by rw [It_X7_plan]; rfl
theorem I_X7_plan_47 : zin zm_X7_plan.2.2.2.2.2 47 = some (.iastore, 1) := by rw [It_X7_plan]; rfl
theorem I_X7_plan_48 : zin zm_X7_plan.2.2.2.2.2 48 = some (.aload_n 0, 1) := by rw [It_X7_plan]; rfl
theorem I_X7_plan_49 : zin zm_X7_plan.2.2.2.2.2 49 = some (.getfield 19, 3) := by rw [It_X7_plan]; rfl
theorem I_X7_plan_52 : zin zm_X7_plan.2.2.2.2.2 52 = some (.dup, 1) := by rw [It_X7_plan]; rfl
theorem I_X7_plan_53 : zin zm_X7_plan.2.2.2.2.2 53 = some (.getfield 99, 3) := by rw [It_X7_plan]; rfl
theorem I_X7_plan_56 : zin zm_X7_plan.2.2.2.2.2 56 = some (.iconst 1, 1) := by rw [It_X7_plan]; rfl
theorem I_X7_plan_57 : zin zm_X7_plan.2.2.2.2.2 57 = some (.iadd, 1) := by rw [It_X7_plan]; rfl
theorem I_X7_plan_58 : zin zm_X7_plan.2.2.2.2.2 58 = some (.putfield 99, 3) := by rw [It_X7_plan]; rfl
theorem I_X7_plan_61 : zin zm_X7_plan.2.2.2.2.2 61 = some (.aload_n 0, 1) := by rw [It_X7_plan]; rfl
theorem I_X7_plan_62 : zin zm_X7_plan.2.2.2.2.2 62 = some (.getfield 19, 3) := by rw [It_X7_plan]; rfl
theorem I_X7_plan_65 : zin zm_X7_plan.2.2.2.2.2 65 = some (.getfield 99, 3) := by rw [It_X7_plan]; rfl
theorem I_X7_plan_68 : zin zm_X7_plan.2.2.2.2.2 68 = some (.ireturn, 1) := by rw [It_X7_plan]; rfl
theorem I_X7_slack_0 : zin zm_X7_slack.2.2.2.2.2 0 = some (.iload_n 1, 1) := by rw [It_X7_slack]; rfl
theorem I_X7_slack_1 : zin zm_X7_slack.2.2.2.2.2 1 = some (.ifCond .lt 9, 3) := by rw [It_X7_slack]; rfl
theorem I_X7_slack_4 : zin zm_X7_slack.2.2.2.2.2 4 = some (.iload_n 1, 1) := by rw [It_X7_slack]; rfl
theorem I_X7_slack_5 : zin zm_X7_slack.2.2.2.2.2 5 = some (.bipush 9, 2) := by rw [It_X7_slack]; rfl
theorem I_X7_slack_7 : zin zm_X7_slack.2.2.2.2.2 7 = some (.if_icmp .le 5, 3) := by rw [It_X7_slack]; rfl
theorem I_X7_slack_10 : zin zm_X7_slack.2.2.2.2.2 10 = some (.iconst (-1), 1) := by rw [It_X7_slack]; rfl
theorem I_X7_slack_11 : zin zm_X7_slack.2.2.2.2.2 11 = some (.ireturn, 1) := by rw [It_X7_slack]; rfl
theorem I_X7_slack_12 : zin zm_X7_slack.2.2.2.2.2 12 = some (.aload_n 0, 1) := by rw [It_X7_slack]; rfl
theorem I_X7_slack_13 : zin zm_X7_slack.2.2.2.2.2 13 = some (.getfield 19, 3) := by rw [It_X7_slack]; rfl
theorem I_X7_slack_16 : zin zm_X7_slack.2.2.2.2.2 16 = some (.getfield 93, 3) := by rw [It_X7_slack]; rfl
theorem I_X7_slack_19 : zin zm_X7_slack.2.2.2.2.2 19 = some (.istore_n 2, 1) := by rw [It_X7_slack]; rfl
theorem I_X7_slack_20 : zin zm_X7_slack.2.2.2.2.2 20 = some (.aload_n 0, 1) := by rw [It_X7_slack]; rfl
theorem I_X7_slack_21 : zin zm_X7_slack.2.2.2.2.2 21 = some (.getfield 19, 3) := by rw [It_X7_slack]; rfl
theorem I_X7_slack_24 : zin zm_X7_slack.2.2.2.2.2 24 = some (.iload_n 1, 1) := by rw [It_X7_slack]; rfl
theorem I_X7_slack_25 : zin zm_X7_slack.2.2.2.2.2 25 = some (.putfield 93, 3) := by rw [It_X7_slack]; rfl
theorem I_X7_slack_28 : zin zm_X7_slack.2.2.2.2.2 28 = some (.iload_n 2, 1) := by rw [It_X7_slack]; rfl
theorem I_X7_slack_29 : zin zm_X7_slack.2.2.2.2.2 29 = some (.ireturn, 1) := by rw [It_X7_slack]; rfl
theorem I_X8_act_0 : zin zm_X8_act.2.2.2.2.2 0 = some (.iload_n 1, 1) := by rw [It_X8_act]; rfl
theorem I_X8_act_1 : zin zm_X8_act.2.2.2.2.2 1 = some (.i2l, 1) := by rw [It_X8_act]; rfl
theorem I_X8_act_2 : zin zm_X8_act.2.2.2.2.2 2 = some (.lconst 0, 1) := by rw [It_X8_act]; rfl
theorem I_X8_act_3 : zin zm_X8_act.2.2.2.2.2 3 = some (.aload_n 0, 1) := by rw [It_X8_act]; rfl
theorem I_X8_act_4 : zin zm_X8_act.2.2.2.2.2 4 = some (.getfield 7, 3) := by rw [It_X8_act]; rfl
theorem I_X8_act_7 : zin zm_X8_act.2.2.2.2.2 7 = some (.bipush 26, 2) := by rw [It_X8_act]; rfl
theorem I_X8_act_9 : zin zm_X8_act.2.2.2.2.2 9 = some (.iaload, 1) := by rw [It_X8_act]; rfl
theorem I_X8_act_10 : zin zm_X8_act.2.2.2.2.2 10 = some (.iconst 1, 1) := by rw [It_X8_act]; rfl
theorem I_X8_act_11 : zin zm_X8_act.2.2.2.2.2 11 = some (.isub, 1) := by rw [It_X8_act]; rfl
theorem I_X8_act_12 : zin zm_X8_act.2.2.2.2.2 12 = some (.i2l, 1) := by rw [It_X8_act]; rfl
theorem I_X8_act_13 : zin zm_X8_act.2.2.2.2.2 13 = some (.invokestatic 55, 3) := by rw [It_X8_act]; rfl
theorem I_X8_act_16 : zin zm_X8_act.2.2.2.2.2 16 = some (.ifCond .eq 15, 3) := by rw [It_X8_act]; rfl
theorem I_X8_act_19 : zin zm_X8_act.2.2.2.2.2 19 = some (.aload_n 0, 1) := by rw [It_X8_act]; rfl
theorem I_X8_act_20 : zin zm_X8_act.2.2.2.2.2 20 = some (.getfield 7, 3) := by rw [It_X8_act]; rfl
theorem I_X8_act_23 : zin zm_X8_act.2.2.2.2.2 23 = some (.bipush 18, 2) := by rw [It_X8_act]; rfl
theorem I_X8_act_25 : zin zm_X8_act.2.2.2.2.2 25 = some (.iload_n 1, 1) := by rw [It_X8_act]; rfl
theorem I_X8_act_26 : zin zm_X8_act.2.2.2.2.2 26 = some (.iadd, 1) := by rw [It_X8_act]; rfl
theorem I_X8_act_27 : zin zm_X8_act.2.2.2.2.2 27 = some (.iaload, 1) := by rw [It_X8_act]; rfl
theorem I_X8_act_28 : zin zm_X8_act.2.2.2.2.2 28 = some (.goto 4, 3) := by rw [It_X8_act]; rfl
theorem I_X8_act_31 : zin zm_X8_act.2.2.2.2.2 31 = some (.iconst (-1), 1) := by rw [It_X8_act]; rfl
theorem I_X8_act_32 : zin zm_X8_act.2.2.2.2.2 32 = some (.ireturn, 1) := by rw [It_X8_act]; rfl
theorem I_X8_all_0 : zin zm_X8_all.2.2.2.2.2 0 = some (.iconst 1, 1) := by rw [It_X8_all]; rfl
theorem I_X8_all_1 : zin zm_X8_all.2.2.2.2.2 1 = some (.aload_n 0, 1) := by rw [It_X8_all]; rfl
theorem I_X8_all_2 : zin zm_X8_all.2.2.2.2.2 2 = some (.getfield 131, 3) := by rw [It_X8_all]; rfl
theorem I_X8_all_5 : zin zm_X8_all.2.2.2.2.2 5 = some (.ishl, 1) := by rw [It_X8_all]; rfl
theorem I_X8_all_6 : zin zm_X8_all.2.2.2.2.2 6 = some (.iconst 1, 1) := by rw [It_X8_all]; rfl
theorem I_X8_all_7 : zin zm_X8_all.2.2.2.2.2 7 = some (.isub, 1) := by rw [It_X8_all]; rfl
theorem I_X8_all_8 : zin zm_X8_all.2.2.2.2.2 8 = some (.ireturn, 1) := by rw [It_X8_all]; rfl
theorem I_X8_cut_0 : zin zm_X8_cut.2.2.2.2.2 0 = some (.aload_n 0, 1) := by rw [It_X8_cut]; rfl
theorem I_X8_cut_1 : zin zm_X8_cut.2.2.2.2.2 1 = some (.iload_n 1, 1) := by rw [It_X8_cut]; rfl
theorem I_X8_cut_2 : zin zm_X8_cut.2.2.2.2.2 2 = some (.i2l, 1) := by rw [It_X8_cut]; rfl
theorem I_X8_cut_3 : zin zm_X8_cut.2.2.2.2.2 3 = some (.lconst 0, 1) := by rw [It_X8_cut]; rfl
theorem I_X8_cut_4 : zin zm_X8_cut.2.2.2.2.2 4 = some (.aload_n 0, 1) := by rw [It_X8_cut]; rfl
theorem I_X8_cut_5 : zin zm_X8_cut.2.2.2.2.2 5 = some (.getfield 7, 3) := by rw [It_X8_cut]; rfl
theorem I_X8_cut_8 : zin zm_X8_cut.2.2.2.2.2 8 = some (.bipush 26, 2) := by rw [It_X8_cut]; rfl
theorem I_X8_cut_10 : zin zm_X8_cut.2.2.2.2.2 10 = some (.iaload, 1) := by rw [It_X8_cut]; rfl
theorem I_X8_cut_11 : zin zm_X8_cut.2.2.2.2.2 11 = some (.i2l, 1) := by rw [It_X8_cut]; rfl
theorem I_X8_cut_12 : zin zm_X8_cut.2.2.2.2.2 12 = some (.invokestatic 55, 3) := by rw [It_X8_cut]; rfl
theorem I_X8_cut_15 : zin zm_X8_cut.2.2.2.2.2 15 = some (.bipush 26, 2) := by rw [It_X8_cut]; rfl
theorem I_X8_cut_17 : zin zm_X8_cut.2.2.2.2.2 17 = some (.iload_n 1, 1) := by rw [It_X8_cut]; rfl
theorem I_X8_cut_18 : zin zm_X8_cut.2.2.2.2.2 18 = some (.iconst 0, 1) := by rw [It_X8_cut]; rfl
theorem I_X8_cut_19 : zin zm_X8_cut.2.2.2.2.2 19 = some (.invokevirtual 161, 3) := by rw [It_X8_cut]; rfl
theorem I_X8_cut_22 : zin zm_X8_cut.2.2.2.2.2 22 = some (.ireturn, 1) := by rw [It_X8_cut]; rfl
theorem I_X8_forget_0 : zin zm_X8_forget.2.2.2.2.2 0 = some (.iload_n 1, 1) := by rw [It_X8_forget]; rfl
theorem I_X8_forget_1 : zin zm_X8_forget.2.2.2.2.2 1 = some (.i2l, 1) := by rw [It_X8_forget]; rfl
theorem I_X8_forget_2 : zin zm_X8_forget.2.2.2.2.2 2 = some (.lconst 0, 1) := by rw [It_X8_forget]; rfl
theorem I_X8_forget_3 : zin zm_X8_forget.2.2.2.2.2 3 = some (.aload_n 0, 1) := by rw [It_X8_forget]; rfl
theorem I_X8_forget_4 : zin zm_X8_forget.2.2.2.2.2 4 = some (.getfield 134, 3) := by rw [It_X8_forget]; rfl
theorem I_X8_forget_7 : zin zm_X8_forget.2.2.2.2.2 7 = some (.i2l, 1) := by rw [It_X8_forget]; rfl
theorem I_X8_forget_8 : zin zm_X8_forget.2.2.2.2.2 8 = some (.invokestatic 55, 3) := by rw [It_X8_forget]; rfl
theorem I_X8_forget_11 : zin zm_X8_forget.2.2.2.2.2 11 = some (.ifCond .ne 5, 3) := by rw [It_X8_forget]; rfl
theorem I_X8_forget_14 : zin zm_X8_forget.2.2.2.2.2 14 = some (.iconst (-1), 1) := by rw [It_X8_forget]; rfl
theorem I_X8_forget_15 : zin zm_X8_forget.2.2.2.2.2 15 = some (.ireturn, 1) := by rw [It_X8_forget]; rfl
theorem I_X8_forget_16 : zin zm_X8_forget.2.2.2.2.2 16 = some (.aload_n 0, 1) := by rw [It_X8_forget]; rfl
theorem I_X8_forget_17 : zin zm_X8_forget.2.2.2.2.2 17 = some (.getfield 134, 3) := by rw [It_X8_forget]; rfl
theorem I_X8_forget_20 : zin zm_X8_forget.2.2.2.2.2 20 = some (.istore_n 2, 1) := by rw [It_X8_forget]; rfl
theorem I_X8_forget_21 : zin zm_X8_forget.2.2.2.2.2 21 = some (.aload_n 0, 1) := by rw [It_X8_forget]; rfl
theorem I_X8_forget_22 : zin zm_X8_forget.2.2.2.2.2 22 = some (.iload_n 1, 1) := by rw [It_X8_forget]; rfl
theorem I_X8_forget_23 : zin zm_X8_forget.2.2.2.2.2 23 = some (.putfield 134, 3) := by rw [It_X8_forget]; rfl
theorem I_X8_forget_26 : zin zm_X8_forget.2.2.2.2.2 26 = some (.iload_n 2, 1) := by rw [It_X8_forget]; rfl
theorem I_X8_forget_27 : zin zm_X8_forget.2.2.2.2.2 27 = some (.ireturn, 1) := by rw [It_X8_forget]; rfl
theorem I_X8_isOne_0 : zin zm_X8_isOne.2.2.2.2.2 0 = some (.iload_n 1, 1) := by rw [It_X8_isOne]; rfl
theorem I_X8_isOne_1 : zin zm_X8_isOne.2.2.2.2.2 1 = some (.i2l, 1) := by rw [It_X8_isOne]; rfl
theorem I_X8_isOne_2 : zin zm_X8_isOne.2.2.2.2.2 2 = some (.lconst 0, 1) := by rw [It_X8_isOne]; rfl
theorem I_X8_isOne_3 : zin zm_X8_isOne.2.2.2.2.2 3 = some (.aload_n 0, 1) := by rw [It_X8_isOne]; rfl
theorem I_X8_isOne_4 : zin zm_X8_isOne.2.2.2.2.2 4 = some (.getfield 131, 3) := by rw [It_X8_isOne]; rfl
theorem I_X8_isOne_7 : zin zm_X8_isOne.2.2.2.2.2 7 = some (.iconst 1, 1) := by rw [It_X8_isOne]; rfl
theorem I_X8_isOne_8 : zin zm_X8_isOne.2.2.2.2.2 8 = some (.isub, 1) := by rw [It_X8_isOne]; rfl
theorem I_X8_isOne_9 : zin zm_X8_isOne.2.2.2.2.2 9 = some (.i2l, 1) := by rw [It_X8_isOne]; rfl
theorem I_X8_isOne_10 : zin zm_X8_isOne.2.2.2.2.2 10 = some (.invokestatic 55, 3) := by rw [It_X8_isOne]; rfl
theorem I_X8_isOne_13 : zin zm_X8_isOne.2.2.2.2.2 13 = some (.ireturn, 1) := by rw [It_X8_isOne]; rfl
theorem I_X8_plan_0 : zin zm_X8_plan.2.2.2.2.2 0 = some (.iload_n 1, 1) := by rw [It_X8_plan]; rfl
theorem I_X8_plan_1 : zin zm_X8_plan.2.2.2.2.2 1 = some (.i2l, 1) := by rw [It_X8_plan]; rfl
theorem I_X8_plan_2 : zin zm_X8_plan.2.2.2.2.2 2 = some (.lconst 0, 1) := by rw [It_X8_plan]; rfl
theorem I_X8_plan_3 : zin zm_X8_plan.2.2.2.2.2 3 = some (.aload_n 0, 1) := by rw [It_X8_plan]; rfl
theorem I_X8_plan_4 : zin zm_X8_plan.2.2.2.2.2 4 = some (.invokevirtual 167, 3) := by rw [It_X8_plan]; rfl
theorem I_X8_plan_7 : zin zm_X8_plan.2.2.2.2.2 7 = some (.i2l, 1) := by rw [It_X8_plan]; rfl
theorem I_X8_plan_8 : zin zm_X8_plan.2.2.2.2.2 8 = some (.invokestatic 55, 3) := by rw [It_X8_plan]; rfl
theorem I_X8_plan_11 : zin zm_X8_plan.2.2.2.2.2 11 = some (.ifCond .ne 5, 3) := by rw [It_X8_plan]; rfl
theorem I_X8_plan_14 : zin zm_X8_plan.2.2.2.2.2 14 = some (.iconst (-1), 1) := by rw [It_X8_plan]; rfl
theorem I_X8_plan_15 : zin zm_X8_plan.2.2.2.2.2 15 = some (.ireturn, 1) := by rw [It_X8_plan]; rfl
theorem I_X8_plan_16 : zin zm_X8_plan.2.2.2.2.2 16 = some (.aload_n 0, 1) := by rw [It_X8_plan]; rfl
theorem I_X8_plan_17 : zin zm_X8_plan.2.2.2.2.2 17 = some (.getfield 7, 3) := by rw [It_X8_plan]; rfl
theorem I_X8_plan_20 : zin zm_X8_plan.2.2.2.2.2 20 = some (.bipush 26, 2) := by rw [It_X8_plan]; rfl
theorem I_X8_plan_22 : zin zm_X8_plan.2.2.2.2.2 22 = some (.iaload, 1) := by rw [It_X8_plan]; rfl
theorem I_X8_plan_23 : zin zm_X8_plan.2.2.2.2.2 23 = some (.bipush 8, 2) := by rw [It_X8_plan]; rfl
theorem I_X8_plan_25 : zin zm_X8_plan.2.2.2.2.2 25 = some (.if_icmp .ne 6, 3) := by rw [It_X8_plan]; rfl
theorem I_X8_plan_28 : zin zm_X8_plan.2.2.2.2.2 28 = some (.bipush (-3), 2) := by rw [It_X8_plan]; rfl
theorem I_X8_plan_30 : zin zm_X8_plan.2.2.2.2.2 30 = some (.ireturn, 1) := by rw [It_X8_plan]; rfl
theorem I_X8_plan_31 : zin zm_X8_plan.2.2.2.2.2 31 = some (.aload_n 0, 1) := by rw [It_X8_plan]; rfl
theorem I_X8_plan_32 : zin zm_X8_plan.2.2.2.2.2 32 = some (.getfield 7, 3) := by rw [It_X8_plan]; rfl
theorem I_X8_plan_35 : zin zm_X8_plan.2.2.2.2.2 35 = some (.bipush 18, 2) := by rw [It_X8_plan]; rfl
theorem I_X8_plan_37 : zin zm_X8_plan.2.2.2.2.2 37 = some (.aload_n 0, 1) := by rw [It_X8_plan]; rfl
theorem I_X8_plan_38 : zin zm_X8_plan.2.2.2.2.2 38 = some (.getfield 7, 3) := by rw [It_X8_plan]; rfl
theorem I_X8_plan_41 : zin zm_X8_plan.2.2.2.2.2 41 = some (.bipush 26, 2) := by rw [It_X8_plan]; rfl
theorem I_X8_plan_43 : zin zm_X8_plan.2.2.2.2.2 43 = some (.iaload, 1) := by rw [It_X8_plan]; rfl
theorem I_X8_plan_44 : zin zm_X8_plan.2.2.2.2.2 44 = some (.iadd, 1) := by rw [It_X8_plan]; rfl
theorem I_X8_plan_45 : zin zm_X8_plan.2.2.2.2.2 45 = some (.iload_n 1, 1) := by rw [It_X8_plan]; rfl
theorem I_X8_plan_46 : zin zm_X8_plan.2.2.2.2.2 46 = some (.iastore, 1) := by rw [It_X8_plan]; rfl
theorem I_X8_plan_47 : zin zm_X8_plan.2.2.2.2.2 47 = some (.aload_n 0, 1) := by rw [It_X8_plan]; rfl
theorem I_X8_plan_48 : zin zm_X8_plan.2.2.2.2.2 48 = some (.getfield 7, 3) := by rw [It_X8_plan]; rfl
theorem I_X8_plan_51 : zin zm_X8_plan.2.2.2.2.2 51 = some (.bipush 26, 2) := by rw [It_X8_plan]; rfl
theorem I_X8_plan_53 : zin zm_X8_plan.2.2.2.2.2 53 = some (.dup2, 1) := by rw [It_X8_plan]; rfl
theorem I_X8_plan_54 : zin zm_X8_plan.2.2.2.2.2 54 = some (.iaload, 1) := by rw [It_X8_plan]; rfl
theorem I_X8_plan_55 : zin zm_X8_plan.2.2.2.2.2 55 = some (.iconst 1, 1) := by rw [It_X8_plan]; rfl
theorem I_X8_plan_56 : zin zm_X8_plan.2.2.2.2.2 56 = some (.iadd, 1) := by rw [It_X8_plan]; rfl
theorem I_X8_plan_57 : zin zm_X8_plan.2.2.2.2.2 57 = some (.iastore, 1) := by rw [It_X8_plan]; rfl
theorem I_X8_plan_58 : zin zm_X8_plan.2.2.2.2.2 58 = some (.aload_n 0, 1) := by rw [It_X8_plan]; rfl
theorem I_X8_plan_59 : zin zm_X8_plan.2.2.2.2.2 59 = some (.getfield 7, 3) := by rw [It_X8_plan]; rfl
theorem I_X8_plan_62 : zin zm_X8_plan.2.2.2.2.2 62 = some (.bipush 26, 2) := by rw [It_X8_plan]; rfl
theorem I_X8_plan_64 : zin zm_X8_plan.2.2.2.2.2 64 = some (.iaload, 1) := by rw [It_X8_plan]; rfl
theorem I_X8_plan_65 : zin zm_X8_plan.2.2.2.2.2 65 = some (.ireturn, 1) := by rw [It_X8_plan]; rfl
theorem I_X8_puts_0 : zin zm_X8_puts.2.2.2.2.2 0 = some (.iload_n 1, 1) := by rw [It_X8_puts]; rfl
theorem I_X8_puts_1 : zin zm_X8_puts.2.2.2.2.2 1 = some (.ifCond .ne 5, 3) := by rw [It_X8_puts]; rfl
theorem I_X8_puts_4 : zin zm_X8_puts.2.2.2.2.2 4 = some (.iconst (-1), 1) := by rw [It_X8_puts]; rfl
theorem I_X8_puts_5 : zin zm_X8_puts.2.2.2.2.2 5 = some (.ireturn, 1) := by rw [It_X8_puts]; rfl
theorem I_X8_puts_6 : zin zm_X8_puts.2.2.2.2.2 6 = some (.aload_n 0, 1) := by rw [It_X8_puts]; rfl
theorem I_X8_puts_7 : zin zm_X8_puts.2.2.2.2.2 7 = some (.getfield 7, 3) := by rw [It_X8_puts]; rfl
theorem I_X8_puts_10 : zin zm_X8_puts.2.2.2.2.2 10 = some (.iload_n 2, 1) := by rw [It_X8_puts]; rfl
theorem I_X8_puts_11 : zin zm_X8_puts.2.2.2.2.2 11 = some (.iaload, 1) := by rw [It_X8_puts]; rfl
theorem I_X8_puts_12 : zin zm_X8_puts.2.2.2.2.2 12 = some (.iload 4, 2) := by rw [It_X8_puts]; rfl
theorem I_X8_puts_14 : zin zm_X8_puts.2.2.2.2.2 14 = some (.iadd, 1) := by rw [It_X8_puts]; rfl
theorem I_X8_puts_15 : zin zm_X8_puts.2.2.2.2.2 15 = some (.istore 5, 2) := by rw [It_X8_puts]; rfl
theorem I_X8_puts_17 : zin zm_X8_puts.2.2.2.2.2 17 = some (.aload_n 0, 1) := by rw [It_X8_puts]; rfl
theorem I_X8_puts_18 : zin zm_X8_puts.2.2.2.2.2 18 = some (.getfield 7, 3) := by rw [It_X8_puts]; rfl
theorem I_X8_puts_21 : zin zm_X8_puts.2.2.2.2.2 21 = some (.iload_n 2, 1) := by rw [It_X8_puts]; rfl
theorem I_X8_puts_22 : zin zm_X8_puts.2.2.2.2.2 22 = some (.iload_n 3, 1) := by rw [It_X8_puts]; rfl
theorem I_X8_puts_23 : zin zm_X8_puts.2.2.2.2.2 23 = some (.iload 4, 2) := by rw [It_X8_puts]; rfl
theorem I_X8_puts_25 : zin zm_X8_puts.2.2.2.2.2 25 = some (.isub, 1) := by rw [It_X8_puts]; rfl
theorem I_X8_puts_26 : zin zm_X8_puts.2.2.2.2.2 26 = some (.iastore, 1) := by rw [It_X8_puts]; rfl
theorem I_X8_puts_27 : zin zm_X8_puts.2.2.2.2.2 27 = some (.iload 5, 2) := by rw [It_X8_puts]; rfl
theorem I_X8_puts_29 : zin zm_X8_puts.2.2.2.2.2 29 = some (.ireturn, 1) := by rw [It_X8_puts]; rfl
theorem I_X8_slack_0 : zin zm_X8_slack.2.2.2.2.2 0 = some (.aload_n 0, 1) := by rw [It_X8_slack]; rfl
theorem I_X8_slack_1 : zin zm_X8_slack.2.2.2.2.2 1 = some (.iload_n 1, 1) := by rw [It_X8_slack]; rfl
theorem I_X8_slack_2 : zin zm_X8_slack.2.2.2.2.2 2 = some (.i2l, 1) := by rw [It_X8_slack]; rfl
theorem I_X8_slack_3 : zin zm_X8_slack.2.2.2.2.2 3 = some (.lconst 0, 1) := by rw [It_X8_slack]; rfl
theorem I_X8_slack_4 : zin zm_X8_slack.2.2.2.2.2 4 = some (.ldc2_w 165, 3) := by rw [It_X8_slack]; rfl
theorem I_X8_slack_7 : zin zm_X8_slack.2.2.2.2.2 7 = some (.invokestatic 55, 3) := by rw [It_X8_slack]; rfl
theorem I_X8_slack_10 : zin zm_X8_slack.2.2.2.2.2 10 = some (.bipush 16, 2) := by rw [It_X8_slack]; rfl
theorem I_X8_slack_12 : zin zm_X8_slack.2.2.2.2.2 12 = some (.iload_n 1, 1) := by rw [It_X8_slack]; rfl
theorem I_X8_slack_13 : zin zm_X8_slack.2.2.2.2.2 13 = some (.iconst 1, 1) := by rw [It_X8_slack]; rfl
theorem I_X8_slack_14 : zin zm_X8_slack.2.2.2.2.2 14 = some (.invokevirtual 161, 3) := by rw [It_X8_slack]; rfl
theorem I_X8_slack_17 : zin zm_X8_slack.2.2.2.2.2 17 = some (.ireturn, 1) := by rw [It_X8_slack]; rfl
theorem G_7_93 : zlk zfls 7 93 = some (0, 4, 134) := rfl
theorem G_7_99 : zlk zfls 7 99 = some (0, 3, 132) := rfl
theorem G_7_140 : zlk zfls 7 140 = some (0, 1, 124) := rfl
theorem K_7_152 : zlk zmls 7 152 = some (0, 4, 1, 544) := rfl
theorem K_8_161 : zlk zmls 8 161 = some (0, 136, 4, 1031) := rfl
theorem K_8_167 : zlk zmls 8 167 = some (0, 139, 0, 1044) := rfl
theorem Zm_4 : zms[4]? = some zm_X0_hasAll := rfl
theorem Zm_136 : zms[136]? = some zm_X8_puts := rfl
theorem Zm_139 : zms[139]? = some zm_X8_all := rfl
theorem LY_11 : zLY[11]? = some (Sum.inr 0, [some (.ref 12), some (.ref 13), none, none, none, none]) := rfl
theorem LY_13 : zLY[13]? = some (Sum.inl 0, List.replicate 8 none) := rfl
theorem J_8_165 : zlk zcJs 8 165 = some (9, 1039) := rfl
theorem cl_X0_has : zm_X0_has.2.2.2.2.1 = 0 := by
  unfold zm_X0_has
  rfl
theorem cn_X0_has : zm_X0_has.2.2.2.2.1 ≠ 12 := by
  rw [cl_X0_has]
  decide
theorem cn2_X0_has : zm_X0_has.2.2.2.2.1 ≠ 2 := by
  rw [cl_X0_has]
  decide
theorem cl_X0_hasAll : zm_X0_hasAll.2.2.2.2.1 = 0 := by
  unfold zm_X0_hasAll
  rfl
theorem cn_X0_hasAll : zm_X0_hasAll.2.2.2.2.1 ≠ 12 := by
  rw [cl_X0_hasAll]
  decide
theorem cn2_X0_hasAll : zm_X0_hasAll.2.2.2.2.1 ≠ 2 := by
  rw [cl_X0_hasAll]
  decide
theorem cl_X7_act : zm_X7_act.2.2.2.2.1 = 7 := by
  unfold zm_X7_act
  rfl
theorem cn_X7_act : zm_X7_act.2.2.2.2.1 ≠ 12 := by
  rw [cl_X7_act]
  decide
theorem cn2_X7_act : zm_X7_act.2.2.2.2.1 ≠ 2 := by
  rw [cl_X7_act]
  decide
theorem cl_X7_cut : zm_X7_cut.2.2.2.2.1 = 7 := by
  unfold zm_X7_cut
  rfl
theorem cn_X7_cut : zm_X7_cut.2.2.2.2.1 ≠ 12 := by
  rw [cl_X7_cut]
  decide
theorem cn2_X7_cut : zm_X7_cut.2.2.2.2.1 ≠ 2 := by
  rw [cl_X7_cut]
  decide
theorem cl_X7_forget : zm_X7_forget.2.2.2.2.1 = 7 := by
  unfold zm_X7_forget
  rfl
theorem cn_X7_forget : zm_X7_forget.2.2.2.2.1 ≠ 12 := by
  rw [cl_X7_forget]
  decide
theorem cn2_X7_forget : zm_X7_forget.2.2.2.2.1 ≠ 2 := by
  rw [cl_X7_forget]
  decide
theorem cl_X7_plan : zm_X7_plan.2.2.2.2.1 = 7 := by
  unfold zm_X7_plan
  rfl
theorem cn_X7_plan : zm_X7_plan.2.2.2.2.1 ≠ 12 := by
  rw [cl_X7_plan]
  decide
theorem cn2_X7_plan : zm_X7_plan.2.2.2.2.1 ≠ 2 := by
  rw [cl_X7_plan]
  decide
theorem cl_X7_slack : zm_X7_slack.2.2.2.2.1 = 7 := by
  unfold zm_X7_slack
  rfl
theorem cn_X7_slack : zm_X7_slack.2.2.2.2.1 ≠ 12 := by
  rw [cl_X7_slack]
  decide
theorem cn2_X7_slack : zm_X7_slack.2.2.2.2.1 ≠ 2 := by
  rw [cl_X7_slack]
  decide
theorem cl_X8_act : zm_X8_act.2.2.2.2.1 = 8 := by
  unfold zm_X8_act
  rfl
theorem cn_X8_act : zm_X8_act.2.2.2.2.1 ≠ 12 := by
  rw [cl_X8_act]
  decide
theorem cn2_X8_act : zm_X8_act.2.2.2.2.1 ≠ 2 := by
  rw [cl_X8_act]
  decide
theorem cl_X8_all : zm_X8_all.2.2.2.2.1 = 8 := by
  unfold zm_X8_all
  rfl
theorem cn_X8_all : zm_X8_all.2.2.2.2.1 ≠ 12 := by
  rw [cl_X8_all]
  decide
theorem cn2_X8_all : zm_X8_all.2.2.2.2.1 ≠ 2 := by
  rw [cl_X8_all]
  decide
theorem cl_X8_cut : zm_X8_cut.2.2.2.2.1 = 8 := by
  unfold zm_X8_cut
  rfl
theorem cn_X8_cut : zm_X8_cut.2.2.2.2.1 ≠ 12 := by
  rw [cl_X8_cut]
  decide
theorem cn2_X8_cut : zm_X8_cut.2.2.2.2.1 ≠ 2 := by
  rw [cl_X8_cut]
  decide
theorem cl_X8_forget : zm_X8_forget.2.2.2.2.1 = 8 := by
  unfold zm_X8_forget
  rfl
theorem cn_X8_forget : zm_X8_forget.2.2.2.2.1 ≠ 12 := by
  rw [cl_X8_forget]
  decide
theorem cn2_X8_forget : zm_X8_forget.2.2.2.2.1 ≠ 2 := by
  rw [cl_X8_forget]
  decide
theorem cl_X8_isOne : zm_X8_isOne.2.2.2.2.1 = 8 := by
  unfold zm_X8_isOne
  rfl
theorem cn_X8_isOne : zm_X8_isOne.2.2.2.2.1 ≠ 12 := by
  rw [cl_X8_isOne]
  decide
theorem cn2_X8_isOne : zm_X8_isOne.2.2.2.2.1 ≠ 2 := by
  rw [cl_X8_isOne]
  decide
theorem cl_X8_plan : zm_X8_plan.2.2.2.2.1 = 8 := by
  unfold zm_X8_plan
  rfl
theorem cn_X8_plan : zm_X8_plan.2.2.2.2.1 ≠ 12 := by
  rw [cl_X8_plan]
  decide
theorem cn2_X8_plan : zm_X8_plan.2.2.2.2.1 ≠ 2 := by
  rw [cl_X8_plan]
  decide
theorem cl_X8_puts : zm_X8_puts.2.2.2.2.1 = 8 := by
  unfold zm_X8_puts
  rfl
theorem cn_X8_puts : zm_X8_puts.2.2.2.2.1 ≠ 12 := by
  rw [cl_X8_puts]
  decide
theorem cn2_X8_puts : zm_X8_puts.2.2.2.2.1 ≠ 2 := by
  rw [cl_X8_puts]
  decide
/-- between two bounds -/
abbrev zBt (x lo hi : Int32) : Prop := ¬ x < lo ∧ ¬ hi < x
theorem zin_bt {x lo hi : Int32} {a b : Int64} (ha : a.toInt = lo.toInt) (hb : b.toInt = hi.toInt) : zin64 x.toInt64 a b = if zBt x lo hi then 1 else 0 := by
  rw [zin_32, ha, hb]
  have e1 : x < lo ↔ x.toInt < lo.toInt := Int32.lt_iff_toInt_lt
  have e2 : hi < x ↔ hi.toInt < x.toInt := Int32.lt_iff_toInt_lt
  by_cases h1 : x < lo
  · rw [if_neg (by have := e1.mp h1; omega), if_neg (fun w => w.1 h1)]
  · by_cases h2 : hi < x
    · rw [if_neg (by have := e2.mp h2; omega), if_neg (fun w => w.2 h2)]
    · rw [if_pos ⟨by have := mt e1.mpr h1; omega, by have := mt e2.mpr h2; omega⟩, if_pos ⟨h1, h2⟩]
theorem zbt_n {x hi : Int32} {n : Nat} (hn : hi = Int32.ofNat n) (hn2 : n ≤ 100000) (h : zBt x 0 hi) : ∃ k, k ≤ n ∧ x = Int32.ofNat k := by
  obtain ⟨h1, h2⟩ := h
  rw [Int32.lt_iff_toInt_lt] at h1 h2
  rw [hn, zofn_t (by omega)] at h2
  have e0 : (0 : Int32).toInt = 0 := rfl
  refine ⟨x.toInt.toNat, by omega, ?_⟩
  apply Int32.toInt_inj.mp
  rw [zofn_t (by omega)]
  omega
theorem zofn_m1 {n : Nat} (h : n ≤ 100000) : (Int32.ofNat n - 1).toInt = (n : Int) - 1 := by
  cases n with
  | zero => rfl
  | succ n =>
    rw [show (1 : Int32) = Int32.ofNat 1 from rfl, ← zofn_sub (by omega), zofn_t (by omega)]
    omega
theorem zin_lt0 {x y : Int32} {n : Nat} (hy : y = Int32.ofNat n) (hn : n ≤ 100000) {a : Int64} (ha : a.toInt = 0) : zin64 x.toInt64 a (y - 1).toInt64 = if ¬ x < 0 ∧ x < y then 1 else 0 := by
  rw [zin_32, ha, Int32.toInt_toInt64, hy, zofn_m1 hn]
  have e1 : x < 0 ↔ x.toInt < 0 := Int32.lt_iff_toInt_lt
  have e2 : x < Int32.ofNat n ↔ x.toInt < (n : Int) := by rw [Int32.lt_iff_toInt_lt, zofn_t (by omega)]
  by_cases h1 : x < 0
  · rw [if_neg (by have := e1.mp h1; omega), if_neg (fun w => w.1 h1)]
  · by_cases h2 : x < Int32.ofNat n
    · rw [if_pos ⟨by have := mt e1.mpr h1; omega, by have := e2.mp h2; omega⟩, if_pos ⟨h1, h2⟩]
    · rw [if_neg (fun w => h2 (e2.mpr (by omega))), if_neg (fun w => h2 w.2)]
theorem zlt_n {x y : Int32} {n : Nat} (hy : y = Int32.ofNat n) (hn : n ≤ 100000) (h : ¬ x < 0 ∧ x < y) : ∃ k, k < n ∧ x = Int32.ofNat k := by
  obtain ⟨h1, h2⟩ := h
  rw [Int32.lt_iff_toInt_lt] at h1 h2
  rw [hy, zofn_t (by omega)] at h2
  have e0 : (0 : Int32).toInt = 0 := rfl
  refine ⟨x.toInt.toNat, by omega, ?_⟩
  apply Int32.toInt_inj.mp
  rw [zofn_t (by omega)]
  omega
theorem t_X8_puts {d : Nat} {m : zM} {r : Option Value} {h' : zHp} {b x v e : Int32} {k : Nat} (hx : x = Int32.ofNat k) (hk : k < 135) (H : zE none d zm_X8_puts 0 [.ref 71, .int b, .int x, .int v, .int e, .null] [] m r h') : (b = 0 ∧ r = some (.int (-1)) ∧ h' = zhp m) ∨ (¬ b = 0 ∧ r = some (.int (m 72 k + e)) ∧ h' = zhp (zup m 72 k (v - e))) := by
  replace H := i_iln (q := 1) H I_X8_puts_0 rfl rfl
  have W := i_if_ne (t := 6) (q := 4) H I_X8_puts_1 (by decide) rfl
  clear H
  rcases W with ⟨c_1, H⟩ | ⟨c_1, H⟩
  · skip
    replace H := i_aln (q := 7) H I_X8_puts_6 rfl rfl
    replace H := i_gfr (q := 10) H I_X8_puts_7 G_8_7 cn_X8_puts LY_71 rfl rfl
    replace H := i_iln (q := 11) H I_X8_puts_10 rfl rfl
    have W := i_ia (q := 12) H I_X8_puts_11 LY_72 rfl
    clear H
    obtain ⟨i_11, bi_11, ei_11, H⟩ := W
    replace H := i_il (q := 14) H I_X8_puts_12 rfl rfl
    replace H := i_iadd (q := 15) H I_X8_puts_14 rfl
    replace H := i_is (q := 17) H I_X8_puts_15 rfl rfl
    replace H := i_aln (q := 18) H I_X8_puts_17 rfl rfl
    replace H := i_gfr (q := 21) H I_X8_puts_18 G_8_7 cn_X8_puts LY_71 rfl rfl
    replace H := i_iln (q := 22) H I_X8_puts_21 rfl rfl
    replace H := i_iln (q := 23) H I_X8_puts_22 rfl rfl
    replace H := i_il (q := 25) H I_X8_puts_23 rfl rfl
    replace H := i_isub (q := 26) H I_X8_puts_25 rfl
    have W := i_iast (q := 27) H I_X8_puts_26 LY_72 rfl
    clear H
    obtain ⟨i_26, bi_26, ei_26, H⟩ := W
    replace H := i_il (q := 29) H I_X8_puts_27 rfl rfl
    obtain ⟨hr, hh⟩ := i_ir H I_X8_puts_29
    first
    | exact Or.inl ⟨c_1, hr, hh⟩
    | (have i1 := zofn (hx.symm.trans ei_11) (by omega) (by omega); subst i1; have i2 := zofn (hx.symm.trans ei_26) (by omega) (by omega); subst i2; exact Or.inr ⟨c_1, hr, hh⟩)
  · skip
    replace H := i_icst (x := (-1)) (q := 5) H I_X8_puts_4 (by decide) rfl
    obtain ⟨hr, hh⟩ := i_ir H I_X8_puts_5
    first
    | exact Or.inl ⟨c_1, hr, hh⟩
    | (have i1 := zofn (hx.symm.trans ei_11) (by omega) (by omega); subst i1; have i2 := zofn (hx.symm.trans ei_26) (by omega) (by omega); subst i2; exact Or.inr ⟨c_1, hr, hh⟩)
theorem t_X7_slack {d : Nat} {m : zM} {r : Option Value} {h' : zHp} {x : Int32}  (H : zE none d zm_X7_slack 0 [.ref 0, .int x, .null] [] m r h') : ∃ m1 v, r = some (.int v) ∧ h' = zhp m1 ∧ ((¬ (zBt x 0 9) ∧ v = -1 ∧ m1 = m) ∨ (zBt x 0 9 ∧ v = m 11 4 ∧ m1 = zup m 11 4 x)) := by
  replace H := i_iln (q := 1) H I_X7_slack_0 rfl rfl
  have W := i_if_lt (t := 10) (q := 4) H I_X7_slack_1 (by decide) rfl
  clear H
  rcases W with ⟨c_1, H⟩ | ⟨c_1, H⟩
  · skip
    replace H := i_icst (x := (-1)) (q := 11) H I_X7_slack_10 (by decide) rfl
    obtain ⟨hr, hh⟩ := i_ir H I_X7_slack_11
    exact ⟨_, _, hr, hh, Or.inl ⟨fun w => w.1 c_1, rfl, rfl⟩⟩
  · skip
    replace H := i_iln (q := 5) H I_X7_slack_4 rfl rfl
    replace H := i_bip (x := 9) (q := 7) H I_X7_slack_5 (by decide) rfl
    have W := i_ic_le (t := 12) (q := 10) H I_X7_slack_7 (by decide) rfl
    clear H
    rcases W with ⟨c_7, H⟩ | ⟨c_7, H⟩
    · skip
      replace H := i_aln (q := 13) H I_X7_slack_12 rfl rfl
      replace H := i_gfr (q := 16) H I_X7_slack_13 G_7_19 cn_X7_slack LY_0 rfl rfl
      replace H := i_gfi (q := 19) H I_X7_slack_16 G_7_93 cn_X7_slack LY_11 rfl rfl
      replace H := i_isn (q := 20) H I_X7_slack_19 rfl rfl
      replace H := i_aln (q := 21) H I_X7_slack_20 rfl rfl
      replace H := i_gfr (q := 24) H I_X7_slack_21 G_7_19 cn_X7_slack LY_0 rfl rfl
      replace H := i_iln (q := 25) H I_X7_slack_24 rfl rfl
      replace H := i_pf (q := 28) H I_X7_slack_25 G_7_93 cn_X7_slack LY_11 rfl rfl
      replace H := i_iln (q := 29) H I_X7_slack_28 rfl rfl
      obtain ⟨hr, hh⟩ := i_ir H I_X7_slack_29
      exact ⟨_, _, hr, hh, Or.inr ⟨⟨c_1, c_7⟩, rfl, rfl⟩⟩
    · skip
      replace H := i_icst (x := (-1)) (q := 11) H I_X7_slack_10 (by decide) rfl
      obtain ⟨hr, hh⟩ := i_ir H I_X7_slack_11
      exact ⟨_, _, hr, hh, Or.inl ⟨fun w => w.2 c_7, rfl, rfl⟩⟩
theorem t_X8_slack {d : Nat} {m : zM} {r : Option Value} {h' : zHp} {x : Int32}  (H : zE none d zm_X8_slack 0 [.ref 71, .int x] [] m r h') : ∃ m1 v, r = some (.int v) ∧ h' = zhp m1 ∧ ((¬ (zBt x 0 9) ∧ v = -1 ∧ m1 = m) ∨ (zBt x 0 9 ∧ v = m 72 16 + 1 ∧ m1 = zup m 72 16 (x - 1))) := by
  replace H := i_aln (q := 1) H I_X8_slack_0 rfl rfl
  replace H := i_iln (q := 2) H I_X8_slack_1 rfl rfl
  replace H := i_i2l (q := 3) H I_X8_slack_2 rfl
  replace H := i_lcst (x := 0) (q := 4) H I_X8_slack_3 (by decide) rfl
  replace H := i_ldc2 (x := 9) (q := 7) H I_X8_slack_4 J_8_165 (by decide) rfl
  replace H := i_in (q := 10) H I_X8_slack_7 K_8_55 rfl
  replace H := i_bip (x := 16) (q := 12) H I_X8_slack_10 (by decide) rfl
  replace H := i_iln (q := 13) H I_X8_slack_12 rfl rfl
  replace H := i_icst (x := 1) (q := 14) H I_X8_slack_13 (by decide) rfl
  have W := i_cv4 1 (q := 17) H I_X8_slack_14 K_8_161 Zm_136 rfl rfl
  clear H
  obtain ⟨r1, h1, Hc, K1, K2⟩ := W
  rcases t_X8_puts (k := 16) rfl (by omega) Hc with ⟨g1, e1, e2⟩ | ⟨g1, e1, e2⟩
  · have H := K1 _ _ e1 e2
    clear e1 e2 Hc K1 K2
    obtain ⟨hr, hh⟩ := i_ir H I_X8_slack_17
    rw [zin_bt (lo := 0) (hi := 9) rfl rfl] at g1
    exact ⟨_, _, hr, hh, Or.inl ⟨zif0 g1, rfl, rfl⟩⟩
  · have H := K1 _ _ e1 e2
    clear e1 e2 Hc K1 K2
    obtain ⟨hr, hh⟩ := i_ir H I_X8_slack_17
    rw [zin_bt (lo := 0) (hi := 9) rfl rfl] at g1
    exact ⟨_, _, hr, hh, Or.inr ⟨zif1 g1, rfl, rfl⟩⟩
theorem t_X7_act {d : Nat} {m : zM} {r : Option Value} {h' : zHp} {x : Int32} {a : Nat} (ha : m 11 3 = Int32.ofNat a) (ha8 : a ≤ 8) (H : zE none d zm_X7_act 0 [.ref 0, .int x] [] m r h') : ∃ v, r = some (.int v) ∧ h' = zhp m ∧ ((¬ (¬ x < 0 ∧ x < m 11 3) ∧ v = -1) ∨ ((¬ x < 0 ∧ x < m 11 3) ∧ ∃ k, k < 8 ∧ x = Int32.ofNat k ∧ v = m 13 k)) := by
  replace H := i_iln (q := 1) H I_X7_act_0 rfl rfl
  have W := i_if_lt (t := 15) (q := 4) H I_X7_act_1 (by decide) rfl
  clear H
  rcases W with ⟨c_1, H⟩ | ⟨c_1, H⟩
  · skip
    replace H := i_icst (x := (-1)) (q := 16) H I_X7_act_15 (by decide) rfl
    replace H := i_goto (q := 28) H I_X7_act_16 (by decide)
    obtain ⟨hr, hh⟩ := i_ir H I_X7_act_28
    exact ⟨_, hr, hh, Or.inl ⟨fun w => w.1 c_1, rfl⟩⟩
  · skip
    replace H := i_iln (q := 5) H I_X7_act_4 rfl rfl
    replace H := i_aln (q := 6) H I_X7_act_5 rfl rfl
    replace H := i_gfr (q := 9) H I_X7_act_6 G_7_19 cn_X7_act LY_0 rfl rfl
    replace H := i_gfi (q := 12) H I_X7_act_9 G_7_99 cn_X7_act LY_11 rfl rfl
    have W := i_ic_lt (t := 19) (q := 15) H I_X7_act_12 (by decide) rfl
    clear H
    rcases W with ⟨c_12, H⟩ | ⟨c_12, H⟩
    · skip
      replace H := i_aln (q := 20) H I_X7_act_19 rfl rfl
      replace H := i_gfr (q := 23) H I_X7_act_20 G_7_19 cn_X7_act LY_0 rfl rfl
      replace H := i_gfr (q := 26) H I_X7_act_23 G_7_140 cn_X7_act LY_11 rfl rfl
      replace H := i_iln (q := 27) H I_X7_act_26 rfl rfl
      have W := i_ia (q := 28) H I_X7_act_27 LY_13 rfl
      clear H
      obtain ⟨i_27, bi_27, ei_27, H⟩ := W
      obtain ⟨hr, hh⟩ := i_ir H I_X7_act_28
      exact ⟨_, hr, hh, Or.inr ⟨⟨c_1, c_12⟩, i_27, bi_27, ei_27, rfl⟩⟩
    · skip
      replace H := i_icst (x := (-1)) (q := 16) H I_X7_act_15 (by decide) rfl
      replace H := i_goto (q := 28) H I_X7_act_16 (by decide)
      obtain ⟨hr, hh⟩ := i_ir H I_X7_act_28
      exact ⟨_, hr, hh, Or.inl ⟨fun w => c_12 w.2, rfl⟩⟩
theorem t_X8_act {d : Nat} {m : zM} {r : Option Value} {h' : zHp} {x : Int32} {a : Nat} (ha : m 72 26 = Int32.ofNat a) (ha8 : a ≤ 8) (H : zE none d zm_X8_act 0 [.ref 71, .int x] [] m r h') : ∃ v, r = some (.int v) ∧ h' = zhp m ∧ ((¬ (¬ x < 0 ∧ x < m 72 26) ∧ v = -1) ∨ ((¬ x < 0 ∧ x < m 72 26) ∧ ∃ k, k < 8 ∧ x = Int32.ofNat k ∧ v = m 72 (18 + k))) := by
  replace H := i_iln (q := 1) H I_X8_act_0 rfl rfl
  replace H := i_i2l (q := 2) H I_X8_act_1 rfl
  replace H := i_lcst (x := 0) (q := 3) H I_X8_act_2 (by decide) rfl
  replace H := i_aln (q := 4) H I_X8_act_3 rfl rfl
  replace H := i_gfr (q := 7) H I_X8_act_4 G_8_7 cn_X8_act LY_71 rfl rfl
  replace H := i_bip (x := 26) (q := 9) H I_X8_act_7 (by decide) rfl
  have W := i_ia (q := 10) H I_X8_act_9 LY_72 rfl
  clear H
  obtain ⟨i_9, bi_9, ei_9, H⟩ := W
  replace H := i_icst (x := 1) (q := 11) H I_X8_act_10 (by decide) rfl
  replace H := i_isub (q := 12) H I_X8_act_11 rfl
  replace H := i_i2l (q := 13) H I_X8_act_12 rfl
  replace H := i_in (q := 16) H I_X8_act_13 K_8_55 rfl
  have W := i_if_eq (t := 31) (q := 19) H I_X8_act_16 (by decide) rfl
  clear H
  rcases W with ⟨c_16, H⟩ | ⟨c_16, H⟩
  · skip
    replace H := i_icst (x := (-1)) (q := 32) H I_X8_act_31 (by decide) rfl
    obtain ⟨hr, hh⟩ := i_ir H I_X8_act_32
    have i1 : i_9 = 26 := (zofn (i := 26) ei_9 (by decide) (by omega)).symm
    subst i1
    rw [zin_lt0 ha (by omega) rfl] at c_16
    exact ⟨_, hr, hh, Or.inl ⟨zif0 c_16, rfl⟩⟩
  · skip
    replace H := i_aln (q := 20) H I_X8_act_19 rfl rfl
    replace H := i_gfr (q := 23) H I_X8_act_20 G_8_7 cn_X8_act LY_71 rfl rfl
    replace H := i_bip (x := 18) (q := 25) H I_X8_act_23 (by decide) rfl
    replace H := i_iln (q := 26) H I_X8_act_25 rfl rfl
    replace H := i_iadd (q := 27) H I_X8_act_26 rfl
    have W := i_ia (q := 28) H I_X8_act_27 LY_72 rfl
    clear H
    obtain ⟨i_27, bi_27, ei_27, H⟩ := W
    replace H := i_goto (q := 32) H I_X8_act_28 (by decide)
    obtain ⟨hr, hh⟩ := i_ir H I_X8_act_32
    have i1 : i_9 = 26 := (zofn (i := 26) ei_9 (by decide) (by omega)).symm
    subst i1
    rw [zin_lt0 ha (by omega) rfl] at c_16
    have hb := zif1 c_16
    obtain ⟨k, k1, rfl⟩ := zlt_n ha (by omega) hb
    have i2 : i_27 = 18 + k := zix_add (k := 18) rfl rfl ei_27 (by omega) (by omega)
    subst i2
    exact ⟨_, hr, hh, Or.inr ⟨hb, k, by omega, rfl, rfl⟩⟩
theorem t_X7_cut {d : Nat} {m : zM} {r : Option Value} {h' : zHp} {x : Int32}  (H : zE none d zm_X7_cut 0 [.ref 0, .int x, .null] [] m r h') : ∃ m1 v, r = some (.int v) ∧ h' = zhp m1 ∧ ((¬ (zBt x 0 (m 11 3)) ∧ v = -1 ∧ m1 = m) ∨ (zBt x 0 (m 11 3) ∧ v = m 11 3 ∧ m1 = zup m 11 3 x)) := by
  replace H := i_iln (q := 1) H I_X7_cut_0 rfl rfl
  have W := i_if_lt (t := 15) (q := 4) H I_X7_cut_1 (by decide) rfl
  clear H
  rcases W with ⟨c_1, H⟩ | ⟨c_1, H⟩
  · skip
    replace H := i_icst (x := (-1)) (q := 16) H I_X7_cut_15 (by decide) rfl
    obtain ⟨hr, hh⟩ := i_ir H I_X7_cut_16
    exact ⟨_, _, hr, hh, Or.inl ⟨fun w => w.1 c_1, rfl, rfl⟩⟩
  · skip
    replace H := i_iln (q := 5) H I_X7_cut_4 rfl rfl
    replace H := i_aln (q := 6) H I_X7_cut_5 rfl rfl
    replace H := i_gfr (q := 9) H I_X7_cut_6 G_7_19 cn_X7_cut LY_0 rfl rfl
    replace H := i_gfi (q := 12) H I_X7_cut_9 G_7_99 cn_X7_cut LY_11 rfl rfl
    have W := i_ic_le (t := 17) (q := 15) H I_X7_cut_12 (by decide) rfl
    clear H
    rcases W with ⟨c_12, H⟩ | ⟨c_12, H⟩
    · skip
      replace H := i_aln (q := 18) H I_X7_cut_17 rfl rfl
      replace H := i_gfr (q := 21) H I_X7_cut_18 G_7_19 cn_X7_cut LY_0 rfl rfl
      replace H := i_gfi (q := 24) H I_X7_cut_21 G_7_99 cn_X7_cut LY_11 rfl rfl
      replace H := i_isn (q := 25) H I_X7_cut_24 rfl rfl
      replace H := i_aln (q := 26) H I_X7_cut_25 rfl rfl
      replace H := i_gfr (q := 29) H I_X7_cut_26 G_7_19 cn_X7_cut LY_0 rfl rfl
      replace H := i_iln (q := 30) H I_X7_cut_29 rfl rfl
      replace H := i_pf (q := 33) H I_X7_cut_30 G_7_99 cn_X7_cut LY_11 rfl rfl
      replace H := i_iln (q := 34) H I_X7_cut_33 rfl rfl
      obtain ⟨hr, hh⟩ := i_ir H I_X7_cut_34
      exact ⟨_, _, hr, hh, Or.inr ⟨⟨c_1, c_12⟩, rfl, rfl⟩⟩
    · skip
      replace H := i_icst (x := (-1)) (q := 16) H I_X7_cut_15 (by decide) rfl
      obtain ⟨hr, hh⟩ := i_ir H I_X7_cut_16
      exact ⟨_, _, hr, hh, Or.inl ⟨fun w => w.2 c_12, rfl, rfl⟩⟩
theorem t_X8_cut {d : Nat} {m : zM} {r : Option Value} {h' : zHp} {x : Int32}  (H : zE none d zm_X8_cut 0 [.ref 71, .int x] [] m r h') : ∃ m1 v, r = some (.int v) ∧ h' = zhp m1 ∧ ((¬ (zBt x 0 (m 72 26)) ∧ v = -1 ∧ m1 = m) ∨ (zBt x 0 (m 72 26) ∧ v = m 72 26 ∧ m1 = zup m 72 26 x)) := by
  replace H := i_aln (q := 1) H I_X8_cut_0 rfl rfl
  replace H := i_iln (q := 2) H I_X8_cut_1 rfl rfl
  replace H := i_i2l (q := 3) H I_X8_cut_2 rfl
  replace H := i_lcst (x := 0) (q := 4) H I_X8_cut_3 (by decide) rfl
  replace H := i_aln (q := 5) H I_X8_cut_4 rfl rfl
  replace H := i_gfr (q := 8) H I_X8_cut_5 G_8_7 cn_X8_cut LY_71 rfl rfl
  replace H := i_bip (x := 26) (q := 10) H I_X8_cut_8 (by decide) rfl
  have W := i_ia (q := 11) H I_X8_cut_10 LY_72 rfl
  clear H
  obtain ⟨i_10, bi_10, ei_10, H⟩ := W
  replace H := i_i2l (q := 12) H I_X8_cut_11 rfl
  replace H := i_in (q := 15) H I_X8_cut_12 K_8_55 rfl
  replace H := i_bip (x := 26) (q := 17) H I_X8_cut_15 (by decide) rfl
  replace H := i_iln (q := 18) H I_X8_cut_17 rfl rfl
  replace H := i_icst (x := 0) (q := 19) H I_X8_cut_18 (by decide) rfl
  have W := i_cv4 1 (q := 22) H I_X8_cut_19 K_8_161 Zm_136 rfl rfl
  clear H
  obtain ⟨r1, h1, Hc, K1, K2⟩ := W
  rcases t_X8_puts (k := 26) rfl (by omega) Hc with ⟨g1, e1, e2⟩ | ⟨g1, e1, e2⟩
  · have H := K1 _ _ e1 e2
    clear e1 e2 Hc K1 K2
    obtain ⟨hr, hh⟩ := i_ir H I_X8_cut_22
    have i1 : i_10 = 26 := (zofn (i := 26) ei_10 (by decide) (by omega)).symm
    subst i1
    rw [zin_bt (lo := 0) (hi := m 72 26) rfl (Int32.toInt_toInt64 _)] at g1
    exact ⟨_, _, hr, hh, Or.inl ⟨zif0 g1, rfl, rfl⟩⟩
  · have H := K1 _ _ e1 e2
    clear e1 e2 Hc K1 K2
    obtain ⟨hr, hh⟩ := i_ir H I_X8_cut_22
    have i1 : i_10 = 26 := (zofn (i := 26) ei_10 (by decide) (by omega)).symm
    subst i1
    rw [zin_bt (lo := 0) (hi := m 72 26) rfl (Int32.toInt_toInt64 _)] at g1
    exact ⟨_, _, hr, hh, Or.inr ⟨zif1 g1, by rw [Int32.add_zero], by rw [Int32.sub_zero]⟩⟩
theorem t_X7_forget {d : Nat} {m : zM} {r : Option Value} {h' : zHp} {x : Int32}  (H : zE none d zm_X7_forget 0 [.ref 0, .int x, .null] [] m r h') : ∃ m1 v, r = some (.int v) ∧ h' = zhp m1 ∧ ((¬ (zBt x 0 (m 40 3)) ∧ v = -1 ∧ m1 = m) ∨ (zBt x 0 (m 40 3) ∧ v = m 40 3 ∧ m1 = zup m 40 3 x)) := by
  replace H := i_iln (q := 1) H I_X7_forget_0 rfl rfl
  have W := i_if_lt (t := 15) (q := 4) H I_X7_forget_1 (by decide) rfl
  clear H
  rcases W with ⟨c_1, H⟩ | ⟨c_1, H⟩
  · skip
    replace H := i_icst (x := (-1)) (q := 16) H I_X7_forget_15 (by decide) rfl
    obtain ⟨hr, hh⟩ := i_ir H I_X7_forget_16
    exact ⟨_, _, hr, hh, Or.inl ⟨fun w => w.1 c_1, rfl, rfl⟩⟩
  · skip
    replace H := i_iln (q := 5) H I_X7_forget_4 rfl rfl
    replace H := i_aln (q := 6) H I_X7_forget_5 rfl rfl
    replace H := i_gfr (q := 9) H I_X7_forget_6 G_7_40 cn_X7_forget LY_0 rfl rfl
    replace H := i_gfi (q := 12) H I_X7_forget_9 G_7_81 cn_X7_forget LY_40 rfl rfl
    have W := i_ic_le (t := 17) (q := 15) H I_X7_forget_12 (by decide) rfl
    clear H
    rcases W with ⟨c_12, H⟩ | ⟨c_12, H⟩
    · skip
      replace H := i_aln (q := 18) H I_X7_forget_17 rfl rfl
      replace H := i_gfr (q := 21) H I_X7_forget_18 G_7_40 cn_X7_forget LY_0 rfl rfl
      replace H := i_gfi (q := 24) H I_X7_forget_21 G_7_81 cn_X7_forget LY_40 rfl rfl
      replace H := i_isn (q := 25) H I_X7_forget_24 rfl rfl
      replace H := i_aln (q := 26) H I_X7_forget_25 rfl rfl
      replace H := i_gfr (q := 29) H I_X7_forget_26 G_7_40 cn_X7_forget LY_0 rfl rfl
      replace H := i_iln (q := 30) H I_X7_forget_29 rfl rfl
      replace H := i_pf (q := 33) H I_X7_forget_30 G_7_81 cn_X7_forget LY_40 rfl rfl
      replace H := i_iln (q := 34) H I_X7_forget_33 rfl rfl
      obtain ⟨hr, hh⟩ := i_ir H I_X7_forget_34
      exact ⟨_, _, hr, hh, Or.inr ⟨⟨c_1, c_12⟩, rfl, rfl⟩⟩
    · skip
      replace H := i_icst (x := (-1)) (q := 16) H I_X7_forget_15 (by decide) rfl
      obtain ⟨hr, hh⟩ := i_ir H I_X7_forget_16
      exact ⟨_, _, hr, hh, Or.inl ⟨fun w => w.2 c_12, rfl, rfl⟩⟩
theorem t_X8_forget {d : Nat} {m : zM} {r : Option Value} {h' : zHp} {x : Int32}  (H : zE none d zm_X8_forget 0 [.ref 71, .int x, .null] [] m r h') : ∃ m1 v, r = some (.int v) ∧ h' = zhp m1 ∧ ((¬ (zBt x 0 (m 71 23)) ∧ v = -1 ∧ m1 = m) ∨ (zBt x 0 (m 71 23) ∧ v = m 71 23 ∧ m1 = zup m 71 23 x)) := by
  replace H := i_iln (q := 1) H I_X8_forget_0 rfl rfl
  replace H := i_i2l (q := 2) H I_X8_forget_1 rfl
  replace H := i_lcst (x := 0) (q := 3) H I_X8_forget_2 (by decide) rfl
  replace H := i_aln (q := 4) H I_X8_forget_3 rfl rfl
  replace H := i_gfi (q := 7) H I_X8_forget_4 G_8_134 cn_X8_forget LY_71 rfl rfl
  replace H := i_i2l (q := 8) H I_X8_forget_7 rfl
  replace H := i_in (q := 11) H I_X8_forget_8 K_8_55 rfl
  have W := i_if_ne (t := 16) (q := 14) H I_X8_forget_11 (by decide) rfl
  clear H
  rcases W with ⟨c_11, H⟩ | ⟨c_11, H⟩
  · skip
    replace H := i_aln (q := 17) H I_X8_forget_16 rfl rfl
    replace H := i_gfi (q := 20) H I_X8_forget_17 G_8_134 cn_X8_forget LY_71 rfl rfl
    replace H := i_isn (q := 21) H I_X8_forget_20 rfl rfl
    replace H := i_aln (q := 22) H I_X8_forget_21 rfl rfl
    replace H := i_iln (q := 23) H I_X8_forget_22 rfl rfl
    replace H := i_pf (q := 26) H I_X8_forget_23 G_8_134 cn_X8_forget LY_71 rfl rfl
    replace H := i_iln (q := 27) H I_X8_forget_26 rfl rfl
    obtain ⟨hr, hh⟩ := i_ir H I_X8_forget_27
    rw [zin_bt (lo := 0) (hi := m 71 23) rfl (Int32.toInt_toInt64 _)] at c_11
    exact ⟨_, _, hr, hh, Or.inr ⟨zif1 c_11, rfl, rfl⟩⟩
  · skip
    replace H := i_icst (x := (-1)) (q := 15) H I_X8_forget_14 (by decide) rfl
    obtain ⟨hr, hh⟩ := i_ir H I_X8_forget_15
    rw [zin_bt (lo := 0) (hi := m 71 23) rfl (Int32.toInt_toInt64 _)] at c_11
    exact ⟨_, _, hr, hh, Or.inl ⟨zif0 c_11, rfl, rfl⟩⟩
theorem t_X0_has {d : Nat} {m : zM} {r : Option Value} {h' : zHp} {k : Nat} {x : Int32} (hk : zlk6 k) (H : zE none d zm_X0_has 0 [.ref k, .int x] [] m r h') : r = some (.int (if ¬ x < 0 ∧ x < m k 2 then 1 else 0)) ∧ h' = zhp m := by
  replace H := i_iln (q := 1) H I_X0_has_0 rfl rfl
  have W := i_if_lt (t := 16) (q := 4) H I_X0_has_1 (by decide) rfl
  clear H
  rcases W with ⟨c_1, H⟩ | ⟨c_1, H⟩
  · skip
    replace H := i_icst (x := 0) (q := 17) H I_X0_has_16 (by decide) rfl
    obtain ⟨hr, hh⟩ := i_ir H I_X0_has_17
    refine ⟨hr.trans ?_, hh⟩
    simp [*]
  · skip
    replace H := i_iln (q := 5) H I_X0_has_4 rfl rfl
    replace H := i_aln (q := 6) H I_X0_has_5 rfl rfl
    replace H := i_gfi (q := 9) H I_X0_has_6 G_0_26 cn_X0_has (lk_0 hk) rfl rfl
    have W := i_ic_ge (t := 16) (q := 12) H I_X0_has_9 (by decide) rfl
    clear H
    rcases W with ⟨c_9, H⟩ | ⟨c_9, H⟩
    · skip
      replace H := i_icst (x := 0) (q := 17) H I_X0_has_16 (by decide) rfl
      obtain ⟨hr, hh⟩ := i_ir H I_X0_has_17
      refine ⟨hr.trans ?_, hh⟩
      simp [*]
    · skip
      replace H := i_icst (x := 1) (q := 13) H I_X0_has_12 (by decide) rfl
      replace H := i_goto (q := 17) H I_X0_has_13 (by decide)
      obtain ⟨hr, hh⟩ := i_ir H I_X0_has_17
      refine ⟨hr.trans ?_, hh⟩
      simp [*]
theorem t_X0_hasAll {d : Nat} {m : zM} {r : Option Value} {h' : zHp} {k : Nat} {x : Int32} (hk : zlk6 k) (H : zE none d zm_X0_hasAll 0 [.ref k, .int x] [] m r h') : r = some (.int (if 0 < x ∧ x < (1 : Int32) <<< (m k 2 &&& 31) then 1 else 0)) ∧ h' = zhp m := by
  replace H := i_iln (q := 1) H I_X0_hasAll_0 rfl rfl
  have W := i_if_le (t := 18) (q := 4) H I_X0_hasAll_1 (by decide) rfl
  clear H
  rcases W with ⟨c_1, H⟩ | ⟨c_1, H⟩
  · skip
    replace H := i_icst (x := 0) (q := 19) H I_X0_hasAll_18 (by decide) rfl
    obtain ⟨hr, hh⟩ := i_ir H I_X0_hasAll_19
    refine ⟨hr.trans ?_, hh⟩
    simp [*]
  · skip
    replace H := i_iln (q := 5) H I_X0_hasAll_4 rfl rfl
    replace H := i_icst (x := 1) (q := 6) H I_X0_hasAll_5 (by decide) rfl
    replace H := i_aln (q := 7) H I_X0_hasAll_6 rfl rfl
    replace H := i_gfi (q := 10) H I_X0_hasAll_7 G_0_26 cn_X0_hasAll (lk_0 hk) rfl rfl
    replace H := i_ishl (q := 11) H I_X0_hasAll_10 rfl
    have W := i_ic_ge (t := 18) (q := 14) H I_X0_hasAll_11 (by decide) rfl
    clear H
    rcases W with ⟨c_11, H⟩ | ⟨c_11, H⟩
    · skip
      replace H := i_icst (x := 0) (q := 19) H I_X0_hasAll_18 (by decide) rfl
      obtain ⟨hr, hh⟩ := i_ir H I_X0_hasAll_19
      refine ⟨hr.trans ?_, hh⟩
      simp [*]
    · skip
      replace H := i_icst (x := 1) (q := 15) H I_X0_hasAll_14 (by decide) rfl
      replace H := i_goto (q := 19) H I_X0_hasAll_15 (by decide)
      obtain ⟨hr, hh⟩ := i_ir H I_X0_hasAll_19
      refine ⟨hr.trans ?_, hh⟩
      simp [*]
theorem t_X8_all {d : Nat} {m : zM} {r : Option Value} {h' : zHp}   (H : zE none d zm_X8_all 0 [.ref 71] [] m r h') : r = some (.int ((1 : Int32) <<< (m 71 2 &&& 31) - 1)) ∧ h' = zhp m := by
  replace H := i_icst (x := 1) (q := 1) H I_X8_all_0 (by decide) rfl
  replace H := i_aln (q := 2) H I_X8_all_1 rfl rfl
  replace H := i_gfi (q := 5) H I_X8_all_2 G_8_131 cn_X8_all LY_71 rfl rfl
  replace H := i_ishl (q := 6) H I_X8_all_5 rfl
  replace H := i_icst (x := 1) (q := 7) H I_X8_all_6 (by decide) rfl
  replace H := i_isub (q := 8) H I_X8_all_7 rfl
  obtain ⟨hr, hh⟩ := i_ir H I_X8_all_8
  exact ⟨hr, hh⟩
theorem t_X8_isOne {d : Nat} {m : zM} {r : Option Value} {h' : zHp} {x : Int32} {c : Nat} (hc : m 71 2 = Int32.ofNat c) (hc5 : c ≤ 5) (H : zE none d zm_X8_isOne 0 [.ref 71, .int x] [] m r h') : r = some (.int (if ¬ x < 0 ∧ x < m 71 2 then 1 else 0)) ∧ h' = zhp m := by
  replace H := i_iln (q := 1) H I_X8_isOne_0 rfl rfl
  replace H := i_i2l (q := 2) H I_X8_isOne_1 rfl
  replace H := i_lcst (x := 0) (q := 3) H I_X8_isOne_2 (by decide) rfl
  replace H := i_aln (q := 4) H I_X8_isOne_3 rfl rfl
  replace H := i_gfi (q := 7) H I_X8_isOne_4 G_8_131 cn_X8_isOne LY_71 rfl rfl
  replace H := i_icst (x := 1) (q := 8) H I_X8_isOne_7 (by decide) rfl
  replace H := i_isub (q := 9) H I_X8_isOne_8 rfl
  replace H := i_i2l (q := 10) H I_X8_isOne_9 rfl
  replace H := i_in (q := 13) H I_X8_isOne_10 K_8_55 rfl
  obtain ⟨hr, hh⟩ := i_ir H I_X8_isOne_13
  refine ⟨hr.trans ?_, hh⟩
  rw [zin_lt0 hc (by omega) rfl]
theorem zsh_c : ∀ c, c ≤ 5 → (1 : Int32) <<< (Int32.ofNat c &&& 31) = Int32.ofNat (2 ^ c) ∧ 2 ^ c ≤ 32 ∧ 1 ≤ 2 ^ c := by decide
theorem zin_all {x y : Int32} {c : Nat} (hy : y = Int32.ofNat c) (hc : c ≤ 5) {a : Int64} (ha : a.toInt = 0) : zin64 x.toInt64 a ((1 : Int32) <<< (y &&& 31) - 1).toInt64 = if ¬ x < 0 ∧ x < (1 : Int32) <<< (y &&& 31) then 1 else 0 := by
  obtain ⟨e1, e2, e3⟩ := zsh_c c hc
  rw [hy]
  exact zin_lt0 e1 (by omega) ha
theorem zps0 {x : Int32} : 0 < x ↔ ¬ x < 0 ∧ ¬ x = 0 := by
  rw [Int32.lt_iff_toInt_lt, Int32.lt_iff_toInt_lt]
  have e0 : (0 : Int32).toInt = 0 := rfl
  constructor
  · intro h
    exact ⟨by omega, fun e => by rw [e] at h; omega⟩
  · intro h
    have : ¬ x.toInt = 0 := fun e => h.2 (Int32.toInt_inj.mp (e.trans e0.symm))
    omega
/-- an act of ones that there are -/
abbrev zAo (x y : Int32) : Prop := ¬ x < 0 ∧ x < (1 : Int32) <<< (y &&& 31)
theorem t_X7_plan {d : Nat} {m : zM} {r : Option Value} {h' : zHp} {x : Int32} {c a : Nat} (hc : m 11 2 = Int32.ofNat c) (hc5 : c ≤ 5) (ha : m 11 3 = Int32.ofNat a) (ha8 : a ≤ 8) (H : zE none d zm_X7_plan 0 [.ref 0, .int x] [] m r h') : ∃ m1 v, r = some (.int v) ∧ h' = zhp m1 ∧ ((¬ zAo x (m 11 2) ∧ v = -1 ∧ m1 = m) ∨ (zAo x (m 11 2) ∧ a = 8 ∧ v = -3 ∧ m1 = m) ∨ (zAo x (m 11 2) ∧ a < 8 ∧ v = Int32.ofNat (a + 1) ∧ m1 = zup (zup m 13 a x) 11 3 (Int32.ofNat (a + 1)))) := by
  replace H := i_iln (q := 1) H I_X7_plan_0 rfl rfl
  have W := i_if_eq (t := 17) (q := 4) H I_X7_plan_1 (by decide) rfl
  clear H
  rcases W with ⟨c_1, H⟩ | ⟨c_1, H⟩
  · skip
    replace H := i_aln (q := 18) H I_X7_plan_17 rfl rfl
    replace H := i_gfr (q := 21) H I_X7_plan_18 G_7_19 cn_X7_plan LY_0 rfl rfl
    replace H := i_gfi (q := 24) H I_X7_plan_21 G_7_99 cn_X7_plan LY_11 rfl rfl
    replace H := i_bip (x := 8) (q := 26) H I_X7_plan_24 (by decide) rfl
    have W := i_ic_lt (t := 32) (q := 29) H I_X7_plan_26 (by decide) rfl
    clear H
    rcases W with ⟨c_26, H⟩ | ⟨c_26, H⟩
    · skip
      replace H := i_aln (q := 33) H I_X7_plan_32 rfl rfl
      replace H := i_gfr (q := 36) H I_X7_plan_33 G_7_19 cn_X7_plan LY_0 rfl rfl
      replace H := i_gfr (q := 39) H I_X7_plan_36 G_7_140 cn_X7_plan LY_11 rfl rfl
      replace H := i_aln (q := 40) H I_X7_plan_39 rfl rfl
      replace H := i_gfr (q := 43) H I_X7_plan_40 G_7_19 cn_X7_plan LY_0 rfl rfl
      replace H := i_gfi (q := 46) H I_X7_plan_43 G_7_99 cn_X7_plan LY_11 rfl rfl
      replace H := i_iln (q := 47) H I_X7_plan_46 rfl rfl
      have W := i_iast (q := 48) H I_X7_plan_47 LY_13 rfl
      clear H
      obtain ⟨i_47, bi_47, ei_47, H⟩ := W
      replace H := i_aln (q := 49) H I_X7_plan_48 rfl rfl
      replace H := i_gfr (q := 52) H I_X7_plan_49 G_7_19 cn_X7_plan LY_0 rfl rfl
      replace H := i_dup (q := 53) H I_X7_plan_52 rfl rfl
      replace H := i_gfi (q := 56) H I_X7_plan_53 G_7_99 cn_X7_plan LY_11 rfl rfl
      replace H := i_icst (x := 1) (q := 57) H I_X7_plan_56 (by decide) rfl
      replace H := i_iadd (q := 58) H I_X7_plan_57 rfl
      replace H := i_pf (q := 61) H I_X7_plan_58 G_7_99 cn_X7_plan LY_11 rfl rfl
      replace H := i_aln (q := 62) H I_X7_plan_61 rfl rfl
      replace H := i_gfr (q := 65) H I_X7_plan_62 G_7_19 cn_X7_plan LY_0 rfl rfl
      replace H := i_gfi (q := 68) H I_X7_plan_65 G_7_99 cn_X7_plan LY_11 rfl rfl
      obtain ⟨hr, hh⟩ := i_ir H I_X7_plan_68
      have hok : zAo x (m 11 2) := by
        obtain ⟨e1, e2, e3⟩ := zsh_c c hc5
        rw [c_1]
        refine ⟨by decide, ?_⟩
        rw [hc, e1]
        exact (zofn_lt (i := 0) (by decide) (by omega)).mpr (by omega)
      rw [ha] at c_26
      have h8 : a < 8 := (zofn_lt (i := a) (j := 8) (by omega) (by decide)).mp c_26
      have i1 : a = i_47 := zofn (ha.symm.trans ei_47) (by omega) (by omega)
      subst i1
      rw [zup_s, zup_n (by omega), ha, zofn_1] at hr
      rw [zup_n (by omega), ha, zofn_1] at hh
      exact ⟨_, _, hr, hh, Or.inr (Or.inr ⟨hok, h8, rfl, rfl⟩)⟩
    · skip
      replace H := i_bip (x := (-3)) (q := 31) H I_X7_plan_29 (by decide) rfl
      obtain ⟨hr, hh⟩ := i_ir H I_X7_plan_31
      have hok : zAo x (m 11 2) := by
        obtain ⟨e1, e2, e3⟩ := zsh_c c hc5
        rw [c_1]
        refine ⟨by decide, ?_⟩
        rw [hc, e1]
        exact (zofn_lt (i := 0) (by decide) (by omega)).mpr (by omega)
      rw [ha] at c_26
      have h8 : a = 8 := by
        have := mt (zofn_lt (i := a) (j := 8) (by omega) (by decide)).mpr c_26
        omega
      exact ⟨_, _, hr, hh, Or.inr (Or.inl ⟨hok, h8, rfl, rfl⟩)⟩
  · skip
    replace H := i_aln (q := 5) H I_X7_plan_4 rfl rfl
    replace H := i_gfr (q := 8) H I_X7_plan_5 G_7_19 cn_X7_plan LY_0 rfl rfl
    replace H := i_iln (q := 9) H I_X7_plan_8 rfl rfl
    have W := i_cv1 0 (q := 12) H I_X7_plan_9 K_7_152 Zm_4 rfl rfl
    clear H
    obtain ⟨r1, h1, Hc, K1, K2⟩ := W
    obtain ⟨e1, e2⟩ := t_X0_hasAll lkk_11 Hc
    have H := K1 _ _ e1 e2
    clear e1 e2 Hc K1 K2
    have W := i_if_ne (t := 17) (q := 15) H I_X7_plan_12 (by decide) rfl
    clear H
    rcases W with ⟨c_12, H⟩ | ⟨c_12, H⟩
    · skip
      replace H := i_aln (q := 18) H I_X7_plan_17 rfl rfl
      replace H := i_gfr (q := 21) H I_X7_plan_18 G_7_19 cn_X7_plan LY_0 rfl rfl
      replace H := i_gfi (q := 24) H I_X7_plan_21 G_7_99 cn_X7_plan LY_11 rfl rfl
      replace H := i_bip (x := 8) (q := 26) H I_X7_plan_24 (by decide) rfl
      have W := i_ic_lt (t := 32) (q := 29) H I_X7_plan_26 (by decide) rfl
      clear H
      rcases W with ⟨c_26, H⟩ | ⟨c_26, H⟩
      · skip
        replace H := i_aln (q := 33) H I_X7_plan_32 rfl rfl
        replace H := i_gfr (q := 36) H I_X7_plan_33 G_7_19 cn_X7_plan LY_0 rfl rfl
        replace H := i_gfr (q := 39) H I_X7_plan_36 G_7_140 cn_X7_plan LY_11 rfl rfl
        replace H := i_aln (q := 40) H I_X7_plan_39 rfl rfl
        replace H := i_gfr (q := 43) H I_X7_plan_40 G_7_19 cn_X7_plan LY_0 rfl rfl
        replace H := i_gfi (q := 46) H I_X7_plan_43 G_7_99 cn_X7_plan LY_11 rfl rfl
        replace H := i_iln (q := 47) H I_X7_plan_46 rfl rfl
        have W := i_iast (q := 48) H I_X7_plan_47 LY_13 rfl
        clear H
        obtain ⟨i_47, bi_47, ei_47, H⟩ := W
        replace H := i_aln (q := 49) H I_X7_plan_48 rfl rfl
        replace H := i_gfr (q := 52) H I_X7_plan_49 G_7_19 cn_X7_plan LY_0 rfl rfl
        replace H := i_dup (q := 53) H I_X7_plan_52 rfl rfl
        replace H := i_gfi (q := 56) H I_X7_plan_53 G_7_99 cn_X7_plan LY_11 rfl rfl
        replace H := i_icst (x := 1) (q := 57) H I_X7_plan_56 (by decide) rfl
        replace H := i_iadd (q := 58) H I_X7_plan_57 rfl
        replace H := i_pf (q := 61) H I_X7_plan_58 G_7_99 cn_X7_plan LY_11 rfl rfl
        replace H := i_aln (q := 62) H I_X7_plan_61 rfl rfl
        replace H := i_gfr (q := 65) H I_X7_plan_62 G_7_19 cn_X7_plan LY_0 rfl rfl
        replace H := i_gfi (q := 68) H I_X7_plan_65 G_7_99 cn_X7_plan LY_11 rfl rfl
        obtain ⟨hr, hh⟩ := i_ir H I_X7_plan_68
        have hok : zAo x (m 11 2) := by
          obtain ⟨e1, e2, e3⟩ := zsh_c c hc5
          have h1 := zif1 c_12
          exact ⟨(zps0.mp h1.1).1, h1.2⟩
        rw [ha] at c_26
        have h8 : a < 8 := (zofn_lt (i := a) (j := 8) (by omega) (by decide)).mp c_26
        have i1 : a = i_47 := zofn (ha.symm.trans ei_47) (by omega) (by omega)
        subst i1
        rw [zup_s, zup_n (by omega), ha, zofn_1] at hr
        rw [zup_n (by omega), ha, zofn_1] at hh
        exact ⟨_, _, hr, hh, Or.inr (Or.inr ⟨hok, h8, rfl, rfl⟩)⟩
      · skip
        replace H := i_bip (x := (-3)) (q := 31) H I_X7_plan_29 (by decide) rfl
        obtain ⟨hr, hh⟩ := i_ir H I_X7_plan_31
        have hok : zAo x (m 11 2) := by
          obtain ⟨e1, e2, e3⟩ := zsh_c c hc5
          have h1 := zif1 c_12
          exact ⟨(zps0.mp h1.1).1, h1.2⟩
        rw [ha] at c_26
        have h8 : a = 8 := by
          have := mt (zofn_lt (i := a) (j := 8) (by omega) (by decide)).mpr c_26
          omega
        exact ⟨_, _, hr, hh, Or.inr (Or.inl ⟨hok, h8, rfl, rfl⟩)⟩
    · skip
      replace H := i_icst (x := (-1)) (q := 16) H I_X7_plan_15 (by decide) rfl
      obtain ⟨hr, hh⟩ := i_ir H I_X7_plan_16
      have h1 := zif0 c_12
      refine ⟨_, _, hr, hh, Or.inl ⟨fun w => h1 ⟨zps0.mpr ⟨w.1, c_1⟩, w.2⟩, rfl, rfl⟩⟩
theorem t_X8_plan {d : Nat} {m : zM} {r : Option Value} {h' : zHp} {x : Int32} {c a : Nat} (hc : m 71 2 = Int32.ofNat c) (hc5 : c ≤ 5) (ha : m 72 26 = Int32.ofNat a) (ha8 : a ≤ 8) (H : zE none d zm_X8_plan 0 [.ref 71, .int x] [] m r h') : ∃ m1 v, r = some (.int v) ∧ h' = zhp m1 ∧ ((¬ zAo x (m 71 2) ∧ v = -1 ∧ m1 = m) ∨ (zAo x (m 71 2) ∧ a = 8 ∧ v = -3 ∧ m1 = m) ∨ (zAo x (m 71 2) ∧ a < 8 ∧ v = Int32.ofNat (a + 1) ∧ m1 = zup (zup m 72 (18 + a) x) 72 26 (Int32.ofNat (a + 1)))) := by
  replace H := i_iln (q := 1) H I_X8_plan_0 rfl rfl
  replace H := i_i2l (q := 2) H I_X8_plan_1 rfl
  replace H := i_lcst (x := 0) (q := 3) H I_X8_plan_2 (by decide) rfl
  replace H := i_aln (q := 4) H I_X8_plan_3 rfl rfl
  have W := i_cv0 0 (q := 7) H I_X8_plan_4 K_8_167 Zm_139 rfl rfl
  clear H
  obtain ⟨r1, h1, Hc, K1, K2⟩ := W
  obtain ⟨e1, e2⟩ := t_X8_all Hc
  have H := K1 _ _ e1 e2
  clear e1 e2 Hc K1 K2
  replace H := i_i2l (q := 8) H I_X8_plan_7 rfl
  replace H := i_in (q := 11) H I_X8_plan_8 K_8_55 rfl
  have W := i_if_ne (t := 16) (q := 14) H I_X8_plan_11 (by decide) rfl
  clear H
  rcases W with ⟨c_11, H⟩ | ⟨c_11, H⟩
  · skip
    replace H := i_aln (q := 17) H I_X8_plan_16 rfl rfl
    replace H := i_gfr (q := 20) H I_X8_plan_17 G_8_7 cn_X8_plan LY_71 rfl rfl
    replace H := i_bip (x := 26) (q := 22) H I_X8_plan_20 (by decide) rfl
    have W := i_ia (q := 23) H I_X8_plan_22 LY_72 rfl
    clear H
    obtain ⟨i_22, bi_22, ei_22, H⟩ := W
    replace H := i_bip (x := 8) (q := 25) H I_X8_plan_23 (by decide) rfl
    have W := i_ic_ne (t := 31) (q := 28) H I_X8_plan_25 (by decide) rfl
    clear H
    rcases W with ⟨c_25, H⟩ | ⟨c_25, H⟩
    · skip
      replace H := i_aln (q := 32) H I_X8_plan_31 rfl rfl
      replace H := i_gfr (q := 35) H I_X8_plan_32 G_8_7 cn_X8_plan LY_71 rfl rfl
      replace H := i_bip (x := 18) (q := 37) H I_X8_plan_35 (by decide) rfl
      replace H := i_aln (q := 38) H I_X8_plan_37 rfl rfl
      replace H := i_gfr (q := 41) H I_X8_plan_38 G_8_7 cn_X8_plan LY_71 rfl rfl
      replace H := i_bip (x := 26) (q := 43) H I_X8_plan_41 (by decide) rfl
      have W := i_ia (q := 44) H I_X8_plan_43 LY_72 rfl
      clear H
      obtain ⟨i_43, bi_43, ei_43, H⟩ := W
      replace H := i_iadd (q := 45) H I_X8_plan_44 rfl
      replace H := i_iln (q := 46) H I_X8_plan_45 rfl rfl
      have W := i_iast (q := 47) H I_X8_plan_46 LY_72 rfl
      clear H
      obtain ⟨i_46, bi_46, ei_46, H⟩ := W
      replace H := i_aln (q := 48) H I_X8_plan_47 rfl rfl
      replace H := i_gfr (q := 51) H I_X8_plan_48 G_8_7 cn_X8_plan LY_71 rfl rfl
      replace H := i_bip (x := 26) (q := 53) H I_X8_plan_51 (by decide) rfl
      replace H := i_dup2 (q := 54) H I_X8_plan_53 rfl rfl rfl
      have W := i_ia (q := 55) H I_X8_plan_54 LY_72 rfl
      clear H
      obtain ⟨i_54, bi_54, ei_54, H⟩ := W
      replace H := i_icst (x := 1) (q := 56) H I_X8_plan_55 (by decide) rfl
      replace H := i_iadd (q := 57) H I_X8_plan_56 rfl
      have W := i_iast (q := 58) H I_X8_plan_57 LY_72 rfl
      clear H
      obtain ⟨i_57, bi_57, ei_57, H⟩ := W
      replace H := i_aln (q := 59) H I_X8_plan_58 rfl rfl
      replace H := i_gfr (q := 62) H I_X8_plan_59 G_8_7 cn_X8_plan LY_71 rfl rfl
      replace H := i_bip (x := 26) (q := 64) H I_X8_plan_62 (by decide) rfl
      have W := i_ia (q := 65) H I_X8_plan_64 LY_72 rfl
      clear H
      obtain ⟨i_64, bi_64, ei_64, H⟩ := W
      obtain ⟨hr, hh⟩ := i_ir H I_X8_plan_65
      rw [zin_all hc hc5 rfl] at c_11
      have hok := zif1 c_11
      have i1 : i_22 = 26 := (zofn (i := 26) ei_22 (by decide) (by omega)).symm
      subst i1
      rw [ha] at c_25
      have h8 : a < 8 := by
        rcases Nat.lt_or_ge a 8 with w | w
        · exact w
        · exact absurd (show Int32.ofNat a = 8 by rw [show a = 8 by omega]; rfl) c_25
      have i2 : i_43 = 26 := (zofn (i := 26) ei_43 (by decide) (by omega)).symm
      subst i2
      have i3 : i_46 = 18 + a := zix_add (k := 18) rfl ha ei_46 (by omega) (by omega)
      subst i3
      have i4 : i_54 = 26 := (zofn (i := 26) ei_54 (by decide) (by omega)).symm
      subst i4
      have i5 : i_57 = 26 := (zofn (i := 26) ei_57 (by decide) (by omega)).symm
      subst i5
      have i6 : i_64 = 26 := (zofn (i := 26) ei_64 (by decide) (by omega)).symm
      subst i6
      rw [zup_n (show ¬ (72 = 72 ∧ 26 = 18 + a) by omega), ha, zofn_1] at hr hh
      rw [zup_s] at hr
      exact ⟨_, _, hr, hh, Or.inr (Or.inr ⟨hok, h8, rfl, rfl⟩)⟩
    · skip
      replace H := i_bip (x := (-3)) (q := 30) H I_X8_plan_28 (by decide) rfl
      obtain ⟨hr, hh⟩ := i_ir H I_X8_plan_30
      rw [zin_all hc hc5 rfl] at c_11
      have hok := zif1 c_11
      have i1 : i_22 = 26 := (zofn (i := 26) ei_22 (by decide) (by omega)).symm
      subst i1
      rw [ha] at c_25
      have h8 : a = 8 := zofn (j := 8) c_25 (by omega) (by decide)
      exact ⟨_, _, hr, hh, Or.inr (Or.inl ⟨hok, h8, rfl, rfl⟩)⟩
  · skip
    replace H := i_icst (x := (-1)) (q := 15) H I_X8_plan_14 (by decide) rfl
    obtain ⟨hr, hh⟩ := i_ir H I_X8_plan_15
    rw [zin_all hc hc5 rfl] at c_11
    exact ⟨_, _, hr, hh, Or.inl ⟨zif0 c_11, rfl, rfl⟩⟩
end
section
/-! become, copies, keep, back -/
theorem It_X7_back : zm_X7_back.2.2.2.2.2 = zt_X7_back := by
  unfold zm_X7_back
  rfl
theorem It_X7_keep : zm_X7_keep.2.2.2.2.2 = zt_X7_keep := by
  unfold zm_X7_keep
  rfl
theorem It_X8_back : zm_X8_back.2.2.2.2.2 = zt_X8_back := by
  unfold zm_X8_back
  rfl
theorem It_X8_copies : zm_X8_copies.2.2.2.2.2 = zt_X8_copies := by
  unfold zm_X8_copies
  rfl
theorem It_X8_keep : zm_X8_keep.2.2.2.2.2 = zt_X8_keep := by
  unfold zm_X8_keep
  rfl
theorem I_X7_back_0 : zin zm_X7_back.2.2.2.2.2 0 = some (.iload_n 1, 1) := by rw [It_X7_back]; rfl
theorem I_X7_back_1 : zin zm_X7_back.2.2.2.2.2 1 = some (.ifCond .lt 8, 3) := by rw [It_X7_back]; rfl
theorem I_X7_back_4 : zin zm_X7_back.2.2.2.2.2 4 = some (.iload_n 1, 1) := by rw [It_X7_back]; rfl
theorem I_X7_back_5 : zin zm_X7_back.2.2.2.2.2 5 = some (.iconst 2, 1) := by rw [It_X7_back]; rfl
theorem I_X7_back_6 : zin zm_X7_back.2.2.2.2.2 6 = some (.if_icmp .lt 5, 3) := by rw [It_X7_back]; rfl
theorem I_X7_back_9 : zin zm_X7_back.2.2.2.2.2 9 = some (.iconst (-1), 1) := by rw [It_X7_back]; rfl
theorem I_X7_back_10 : zin zm_X7_back.2.2.2.2.2 10 = some (.ireturn, 1) := by rw [It_X7_back]; rfl
theorem I_X7_back_11 : zin zm_X7_back.2.2.2.2.2 11 = some (.aload_n 0, 1) := by rw [It_X7_back]; rfl
theorem I_X7_back_12 : zin zm_X7_back.2.2.2.2.2 12 = some (.getfield 48, 3) := by rw [It_X7_back]; rfl
theorem I_X7_back_15 : zin zm_X7_back.2.2.2.2.2 15 = some (.iload_n 1, 1) := by rw [It_X7_back]; rfl
theorem I_X7_back_16 : zin zm_X7_back.2.2.2.2.2 16 = some (.baload, 1) := by rw [It_X7_back]; rfl
theorem I_X7_back_17 : zin zm_X7_back.2.2.2.2.2 17 = some (.ifCond .ne 6, 3) := by rw [It_X7_back]; rfl
theorem I_X7_back_20 : zin zm_X7_back.2.2.2.2.2 20 = some (.bipush (-2), 2) := by rw [It_X7_back]; rfl
theorem I_X7_back_22 : zin zm_X7_back.2.2.2.2.2 22 = some (.ireturn, 1) := by rw [It_X7_back]; rfl
theorem I_X7_back_23 : zin zm_X7_back.2.2.2.2.2 23 = some (.aload_n 0, 1) := by rw [It_X7_back]; rfl
theorem I_X7_back_24 : zin zm_X7_back.2.2.2.2.2 24 = some (.getfield 19, 3) := by rw [It_X7_back]; rfl
theorem I_X7_back_27 : zin zm_X7_back.2.2.2.2.2 27 = some (.aload_n 0, 1) := by rw [It_X7_back]; rfl
theorem I_X7_back_28 : zin zm_X7_back.2.2.2.2.2 28 = some (.getfield 44, 3) := by rw [It_X7_back]; rfl
theorem I_X7_back_31 : zin zm_X7_back.2.2.2.2.2 31 = some (.iload_n 1, 1) := by rw [It_X7_back]; rfl
theorem I_X7_back_32 : zin zm_X7_back.2.2.2.2.2 32 = some (.aaload, 1) := by rw [It_X7_back]; rfl
theorem I_X7_back_33 : zin zm_X7_back.2.2.2.2.2 33 = some (.invokevirtual 77, 3) := by rw [It_X7_back]; rfl
theorem I_X7_back_36 : zin zm_X7_back.2.2.2.2.2 36 = some (.aload_n 0, 1) := by rw [It_X7_back]; rfl
theorem I_X7_back_37 : zin zm_X7_back.2.2.2.2.2 37 = some (.getfield 19, 3) := by rw [It_X7_back]; rfl
theorem I_X7_back_40 : zin zm_X7_back.2.2.2.2.2 40 = some (.getfield 96, 3) := by rw [It_X7_back]; rfl
theorem I_X7_back_43 : zin zm_X7_back.2.2.2.2.2 43 = some (.ireturn, 1) := by rw [It_X7_back]; rfl
theorem I_X7_keep_0 : zin zm_X7_keep.2.2.2.2.2 0 = some (.iload_n 1, 1) := by rw [It_X7_keep]; rfl
theorem I_X7_keep_1 : zin zm_X7_keep.2.2.2.2.2 1 = some (.ifCond .lt 8, 3) := by rw [It_X7_keep]; rfl
theorem I_X7_keep_4 : zin zm_X7_keep.2.2.2.2.2 4 = some (.iload_n 1, 1) := by rw [It_X7_keep]; rfl
theorem I_X7_keep_5 : zin zm_X7_keep.2.2.2.2.2 5 = some (.iconst 2, 1) := by rw [It_X7_keep]; rfl
theorem I_X7_keep_6 : zin zm_X7_keep.2.2.2.2.2 6 = some (.if_icmp .lt 5, 3) := by rw [It_X7_keep]; rfl
theorem I_X7_keep_9 : zin zm_X7_keep.2.2.2.2.2 9 = some (.iconst (-1), 1) := by rw [It_X7_keep]; rfl
theorem I_X7_keep_10 : zin zm_X7_keep.2.2.2.2.2 10 = some (.ireturn, 1) := by rw [It_X7_keep]; rfl
theorem I_X7_keep_11 : zin zm_X7_keep.2.2.2.2.2 11 = some (.aload_n 0, 1) := by rw [It_X7_keep]; rfl
theorem I_X7_keep_12 : zin zm_X7_keep.2.2.2.2.2 12 = some (.getfield 48, 3) := by rw [It_X7_keep]; rfl
theorem I_X7_keep_15 : zin zm_X7_keep.2.2.2.2.2 15 = some (.iload_n 1, 1) := by rw [It_X7_keep]; rfl
theorem I_X7_keep_16 : zin zm_X7_keep.2.2.2.2.2 16 = some (.baload, 1) := by rw [It_X7_keep]; rfl
theorem I_X7_keep_17 : zin zm_X7_keep.2.2.2.2.2 17 = some (.ifCond .eq 7, 3) := by rw [It_X7_keep]; rfl
theorem I_X7_keep_20 : zin zm_X7_keep.2.2.2.2.2 20 = some (.iconst 1, 1) := by rw [It_X7_keep]; rfl
theorem I_X7_keep_21 : zin zm_X7_keep.2.2.2.2.2 21 = some (.goto 4, 3) := by rw [It_X7_keep]; rfl
theorem I_X7_keep_24 : zin zm_X7_keep.2.2.2.2.2 24 = some (.iconst 0, 1) := by rw [It_X7_keep]; rfl
theorem I_X7_keep_25 : zin zm_X7_keep.2.2.2.2.2 25 = some (.istore_n 2, 1) := by rw [It_X7_keep]; rfl
theorem I_X7_keep_26 : zin zm_X7_keep.2.2.2.2.2 26 = some (.aload_n 0, 1) := by rw [It_X7_keep]; rfl
theorem I_X7_keep_27 : zin zm_X7_keep.2.2.2.2.2 27 = some (.getfield 44, 3) := by rw [It_X7_keep]; rfl
theorem I_X7_keep_30 : zin zm_X7_keep.2.2.2.2.2 30 = some (.iload_n 1, 1) := by rw [It_X7_keep]; rfl
theorem I_X7_keep_31 : zin zm_X7_keep.2.2.2.2.2 31 = some (.aaload, 1) := by rw [It_X7_keep]; rfl
theorem I_X7_keep_32 : zin zm_X7_keep.2.2.2.2.2 32 = some (.aload_n 0, 1) := by rw [It_X7_keep]; rfl
theorem I_X7_keep_33 : zin zm_X7_keep.2.2.2.2.2 33 = some (.getfield 19, 3) := by rw [It_X7_keep]; rfl
theorem I_X7_keep_36 : zin zm_X7_keep.2.2.2.2.2 36 = some (.invokevirtual 77, 3) := by rw [It_X7_keep]; rfl
theorem I_X7_keep_39 : zin zm_X7_keep.2.2.2.2.2 39 = some (.aload_n 0, 1) := by rw [It_X7_keep]; rfl
theorem I_X7_keep_40 : zin zm_X7_keep.2.2.2.2.2 40 = some (.getfield 48, 3) := by rw [It_X7_keep]; rfl
theorem I_X7_keep_43 : zin zm_X7_keep.2.2.2.2.2 43 = some (.iload_n 1, 1) := by rw [It_X7_keep]; rfl
theorem I_X7_keep_44 : zin zm_X7_keep.2.2.2.2.2 44 = some (.iconst 1, 1) := by rw [It_X7_keep]; rfl
theorem I_X7_keep_45 : zin zm_X7_keep.2.2.2.2.2 45 = some (.bastore, 1) := by rw [It_X7_keep]; rfl
theorem I_X7_keep_46 : zin zm_X7_keep.2.2.2.2.2 46 = some (.iload_n 2, 1) := by rw [It_X7_keep]; rfl
theorem I_X7_keep_47 : zin zm_X7_keep.2.2.2.2.2 47 = some (.ireturn, 1) := by rw [It_X7_keep]; rfl
theorem I_X8_back_0 : zin zm_X8_back.2.2.2.2.2 0 = some (.iload_n 1, 1) := by rw [It_X8_back]; rfl
theorem I_X8_back_1 : zin zm_X8_back.2.2.2.2.2 1 = some (.i2l, 1) := by rw [It_X8_back]; rfl
theorem I_X8_back_2 : zin zm_X8_back.2.2.2.2.2 2 = some (.lconst 0, 1) := by rw [It_X8_back]; rfl
theorem I_X8_back_3 : zin zm_X8_back.2.2.2.2.2 3 = some (.lconst 1, 1) := by rw [It_X8_back]; rfl
theorem I_X8_back_4 : zin zm_X8_back.2.2.2.2.2 4 = some (.invokestatic 55, 3) := by rw [It_X8_back]; rfl
theorem I_X8_back_7 : zin zm_X8_back.2.2.2.2.2 7 = some (.ifCond .ne 5, 3) := by rw [It_X8_back]; rfl
theorem I_X8_back_10 : zin zm_X8_back.2.2.2.2.2 10 = some (.iconst (-1), 1) := by rw [It_X8_back]; rfl
theorem I_X8_back_11 : zin zm_X8_back.2.2.2.2.2 11 = some (.ireturn, 1) := by rw [It_X8_back]; rfl
theorem I_X8_back_12 : zin zm_X8_back.2.2.2.2.2 12 = some (.aload_n 0, 1) := by rw [It_X8_back]; rfl
theorem I_X8_back_13 : zin zm_X8_back.2.2.2.2.2 13 = some (.getfield 41, 3) := by rw [It_X8_back]; rfl
theorem I_X8_back_16 : zin zm_X8_back.2.2.2.2.2 16 = some (.iload_n 1, 1) := by rw [It_X8_back]; rfl
theorem I_X8_back_17 : zin zm_X8_back.2.2.2.2.2 17 = some (.baload, 1) := by rw [It_X8_back]; rfl
theorem I_X8_back_18 : zin zm_X8_back.2.2.2.2.2 18 = some (.ifCond .ne 6, 3) := by rw [It_X8_back]; rfl
theorem I_X8_back_21 : zin zm_X8_back.2.2.2.2.2 21 = some (.bipush (-2), 2) := by rw [It_X8_back]; rfl
theorem I_X8_back_23 : zin zm_X8_back.2.2.2.2.2 23 = some (.ireturn, 1) := by rw [It_X8_back]; rfl
theorem I_X8_back_24 : zin zm_X8_back.2.2.2.2.2 24 = some (.aload_n 0, 1) := by rw [It_X8_back]; rfl
theorem I_X8_back_25 : zin zm_X8_back.2.2.2.2.2 25 = some (.bipush 27, 2) := by rw [It_X8_back]; rfl
theorem I_X8_back_27 : zin zm_X8_back.2.2.2.2.2 27 = some (.iload_n 1, 1) := by rw [It_X8_back]; rfl
theorem I_X8_back_28 : zin zm_X8_back.2.2.2.2.2 28 = some (.iconst 1, 1) := by rw [It_X8_back]; rfl
theorem I_X8_back_29 : zin zm_X8_back.2.2.2.2.2 29 = some (.iadd, 1) := by rw [It_X8_back]; rfl
theorem I_X8_back_30 : zin zm_X8_back.2.2.2.2.2 30 = some (.imul, 1) := by rw [It_X8_back]; rfl
theorem I_X8_back_31 : zin zm_X8_back.2.2.2.2.2 31 = some (.iconst 0, 1) := by rw [It_X8_back]; rfl
theorem I_X8_back_32 : zin zm_X8_back.2.2.2.2.2 32 = some (.invokevirtual 188, 3) := by rw [It_X8_back]; rfl
theorem I_X8_back_35 : zin zm_X8_back.2.2.2.2.2 35 = some (.aload_n 0, 1) := by rw [It_X8_back]; rfl
theorem I_X8_back_36 : zin zm_X8_back.2.2.2.2.2 36 = some (.getfield 7, 3) := by rw [It_X8_back]; rfl
theorem I_X8_back_39 : zin zm_X8_back.2.2.2.2.2 39 = some (.bipush 17, 2) := by rw [It_X8_back]; rfl
theorem I_X8_back_41 : zin zm_X8_back.2.2.2.2.2 41 = some (.iaload, 1) := by rw [It_X8_back]; rfl
theorem I_X8_back_42 : zin zm_X8_back.2.2.2.2.2 42 = some (.ireturn, 1) := by rw [It_X8_back]; rfl
theorem I_X8_copies_0 : zin zm_X8_copies.2.2.2.2.2 0 = some (.iconst 0, 1) := by rw [It_X8_copies]; rfl
theorem I_X8_copies_1 : zin zm_X8_copies.2.2.2.2.2 1 = some (.istore_n 3, 1) := by rw [It_X8_copies]; rfl
theorem I_X8_copies_2 : zin zm_X8_copies.2.2.2.2.2 2 = some (.iload_n 3, 1) := by rw [It_X8_copies]; rfl
theorem I_X8_copies_3 : zin zm_X8_copies.2.2.2.2.2 3 = some (.bipush 27, 2) := by rw [It_X8_copies]; rfl
theorem I_X8_copies_5 : zin zm_X8_copies.2.2.2.2.2 5 = some (.if_icmp .ge 25, 3) := by rw [It_X8_copies]; rfl
theorem I_X8_copies_8 : zin zm_X8_copies.2.2.2.2.2 8 = some (.aload_n 0, 1) := by rw [It_X8_copies]; rfl
theorem I_X8_copies_9 : zin zm_X8_copies.2.2.2.2.2 9 = some (.getfield 7, 3) := by rw [It_X8_copies]; rfl
theorem I_X8_copies_12 : zin zm_X8_copies.2.2.2.2.2 12 = some (.iload_n 2, 1) := by rw [It_X8_copies]; rfl
theorem I_X8_copies_13 : zin zm_X8_copies.2.2.2.2.2 13 = some (.iload_n 3, 1) := by rw [It_X8_copies]; rfl
theorem I_X8_copies_14 : zin zm_X8_copies.2.2.2.2.2 14 = some (.iadd, 1) := by rw [It_X8_copies]; rfl
theorem I_X8_copies_15 : zin zm_X8_copies.2.2.2.2.2 15 = some (.aload_n 0, 1) := by rw [It_X8_copies]; rfl
theorem I_X8_copies_16 : zin zm_X8_copies.2.2.2.2.2 16 = some (.getfield 7, 3) := by rw [It_X8_copies]; rfl
theorem I_X8_copies_19 : zin zm_X8_copies.2.2.2.2.2 19 = some (.iload_n 1, 1) := by rw [It_X8_copies]; rfl
theorem I_X8_copies_20 : zin zm_X8_copies.2.2.2.2.2 20 = some (.iload_n 3, 1) := by rw [It_X8_copies]; rfl
theorem I_X8_copies_21 : zin zm_X8_copies.2.2.2.2.2 21 = some (.iadd, 1) := by rw [It_X8_copies]; rfl
theorem I_X8_copies_22 : zin zm_X8_copies.2.2.2.2.2 22 = some (.iaload, 1) := by rw [It_X8_copies]; rfl
theorem I_X8_copies_23 : zin zm_X8_copies.2.2.2.2.2 23 = some (.iastore, 1) := by rw [It_X8_copies]; rfl
theorem I_X8_copies_24 : zin zm_X8_copies.2.2.2.2.2 24 = some (.iinc 3 1, 3) := by rw [It_X8_copies]; rfl
theorem I_X8_copies_27 : zin zm_X8_copies.2.2.2.2.2 27 = some (.goto (-25), 3) := by rw [It_X8_copies]; rfl
theorem I_X8_copies_30 : zin zm_X8_copies.2.2.2.2.2 30 = some (.return_, 1) := by rw [It_X8_copies]; rfl
theorem I_X8_keep_0 : zin zm_X8_keep.2.2.2.2.2 0 = some (.iload_n 1, 1) := by rw [It_X8_keep]; rfl
theorem I_X8_keep_1 : zin zm_X8_keep.2.2.2.2.2 1 = some (.i2l, 1) := by rw [It_X8_keep]; rfl
theorem I_X8_keep_2 : zin zm_X8_keep.2.2.2.2.2 2 = some (.lconst 0, 1) := by rw [It_X8_keep]; rfl
theorem I_X8_keep_3 : zin zm_X8_keep.2.2.2.2.2 3 = some (.lconst 1, 1) := by rw [It_X8_keep]; rfl
theorem I_X8_keep_4 : zin zm_X8_keep.2.2.2.2.2 4 = some (.invokestatic 55, 3) := by rw [It_X8_keep]; rfl
theorem I_X8_keep_7 : zin zm_X8_keep.2.2.2.2.2 7 = some (.ifCond .ne 5, 3) := by rw [It_X8_keep]; rfl
theorem I_X8_keep_10 : zin zm_X8_keep.2.2.2.2.2 10 = some (.iconst (-1), 1) := by rw [It_X8_keep]; rfl
theorem I_X8_keep_11 : zin zm_X8_keep.2.2.2.2.2 11 = some (.ireturn, 1) := by rw [It_X8_keep]; rfl
theorem I_X8_keep_12 : zin zm_X8_keep.2.2.2.2.2 12 = some (.aload_n 0, 1) := by rw [It_X8_keep]; rfl
theorem I_X8_keep_13 : zin zm_X8_keep.2.2.2.2.2 13 = some (.iconst 0, 1) := by rw [It_X8_keep]; rfl
theorem I_X8_keep_14 : zin zm_X8_keep.2.2.2.2.2 14 = some (.bipush 27, 2) := by rw [It_X8_keep]; rfl
theorem I_X8_keep_16 : zin zm_X8_keep.2.2.2.2.2 16 = some (.iload_n 1, 1) := by rw [It_X8_keep]; rfl
theorem I_X8_keep_17 : zin zm_X8_keep.2.2.2.2.2 17 = some (.iconst 1, 1) := by rw [It_X8_keep]; rfl
theorem I_X8_keep_18 : zin zm_X8_keep.2.2.2.2.2 18 = some (.iadd, 1) := by rw [It_X8_keep]; rfl
theorem I_X8_keep_19 : zin zm_X8_keep.2.2.2.2.2 19 = some (.imul, 1) := by rw [It_X8_keep]; rfl
theorem I_X8_keep_20 : zin zm_X8_keep.2.2.2.2.2 20 = some (.invokevirtual 188, 3) := by rw [It_X8_keep]; rfl
theorem I_X8_keep_23 : zin zm_X8_keep.2.2.2.2.2 23 = some (.aload_n 0, 1) := by rw [It_X8_keep]; rfl
theorem I_X8_keep_24 : zin zm_X8_keep.2.2.2.2.2 24 = some (.getfield 41, 3) := by rw [It_X8_keep]; rfl
theorem I_X8_keep_27 : zin zm_X8_keep.2.2.2.2.2 27 = some (.iload_n 1, 1) := by rw [It_X8_keep]; rfl
theorem I_X8_keep_28 : zin zm_X8_keep.2.2.2.2.2 28 = some (.baload, 1) := by rw [It_X8_keep]; rfl
theorem I_X8_keep_29 : zin zm_X8_keep.2.2.2.2.2 29 = some (.ifCond .eq 7, 3) := by rw [It_X8_keep]; rfl
theorem I_X8_keep_32 : zin zm_X8_keep.2.2.2.2.2 32 = some (.iconst 1, 1) := by rw [It_X8_keep]; rfl
theorem I_X8_keep_33 : zin zm_X8_keep.2.2.2.2.2 33 = some (.goto 4, 3) := by rw [It_X8_keep]; rfl
theorem I_X8_keep_36 : zin zm_X8_keep.2.2.2.2.2 36 = some (.iconst 0, 1) := by rw [It_X8_keep]; rfl
theorem I_X8_keep_37 : zin zm_X8_keep.2.2.2.2.2 37 = some (.istore_n 2, 1) := by rw [It_X8_keep]; rfl
theorem I_X8_keep_38 : zin zm_X8_keep.2.2.2.2.2 38 = some (.aload_n 0, 1) := by rw [It_X8_keep]; rfl
theorem I_X8_keep_39 : zin zm_X8_keep.2.2.2.2.2 39 = some (.getfield 41, 3) := by rw [It_X8_keep]; rfl
theorem I_X8_keep_42 : zin zm_X8_keep.2.2.2.2.2 42 = some (.iload_n 1, 1) := by rw [It_X8_keep]; rfl
theorem I_X8_keep_43 : zin zm_X8_keep.2.2.2.2.2 43 = some (.iconst 1, 1) := by rw [It_X8_keep]; rfl
theorem I_X8_keep_44 : zin zm_X8_keep.2.2.2.2.2 44 = some (.bastore, 1) := by rw [It_X8_keep]; rfl
theorem I_X8_keep_45 : zin zm_X8_keep.2.2.2.2.2 45 = some (.iload_n 2, 1) := by rw [It_X8_keep]; rfl
theorem I_X8_keep_46 : zin zm_X8_keep.2.2.2.2.2 46 = some (.ireturn, 1) := by rw [It_X8_keep]; rfl
theorem G_7_44 : zlk zfls 7 44 = some (7, 5, 304) := rfl
theorem G_7_96 : zlk zfls 7 96 = some (0, 5, 137) := rfl
theorem K_8_188 : zlk zmls 8 188 = some (0, 147, 2, 1080) := rfl
theorem Zm_147 : zms[147]? = some zm_X8_copies := rfl
theorem cl_X7_back : zm_X7_back.2.2.2.2.1 = 7 := by
  unfold zm_X7_back
  rfl
theorem cn_X7_back : zm_X7_back.2.2.2.2.1 ≠ 12 := by
  rw [cl_X7_back]
  decide
theorem cn2_X7_back : zm_X7_back.2.2.2.2.1 ≠ 2 := by
  rw [cl_X7_back]
  decide
theorem cl_X7_keep : zm_X7_keep.2.2.2.2.1 = 7 := by
  unfold zm_X7_keep
  rfl
theorem cn_X7_keep : zm_X7_keep.2.2.2.2.1 ≠ 12 := by
  rw [cl_X7_keep]
  decide
theorem cn2_X7_keep : zm_X7_keep.2.2.2.2.1 ≠ 2 := by
  rw [cl_X7_keep]
  decide
theorem cl_X8_back : zm_X8_back.2.2.2.2.1 = 8 := by
  unfold zm_X8_back
  rfl
theorem cn_X8_back : zm_X8_back.2.2.2.2.1 ≠ 12 := by
  rw [cl_X8_back]
  decide
theorem cn2_X8_back : zm_X8_back.2.2.2.2.1 ≠ 2 := by
  rw [cl_X8_back]
  decide
theorem cl_X8_copies : zm_X8_copies.2.2.2.2.1 = 8 := by
  unfold zm_X8_copies
  rfl
theorem cn_X8_copies : zm_X8_copies.2.2.2.2.1 ≠ 12 := by
  rw [cl_X8_copies]
  decide
theorem cn2_X8_copies : zm_X8_copies.2.2.2.2.1 ≠ 2 := by
  rw [cl_X8_copies]
  decide
theorem cl_X8_keep : zm_X8_keep.2.2.2.2.1 = 8 := by
  unfold zm_X8_keep
  rfl
theorem cn_X8_keep : zm_X8_keep.2.2.2.2.1 ≠ 12 := by
  rw [cl_X8_keep]
  decide
theorem cn2_X8_keep : zm_X8_keep.2.2.2.2.1 ≠ 2 := by
  rw [cl_X8_keep]
  decide
theorem t_become {d : Nat} {m : zM} {r : Option Value} {h' : zHp} {k o c a : Nat} (hk : zlk6 k) (ho : zlk6 o) (hne : k ≠ o) (h1 : m o 2 = Int32.ofNat c) (h2 : c ≤ 5) (a3 : m o 3 = Int32.ofNat a) (a1 : a ≤ 8) (H : zE none d zm_X0_become 0 [.ref k, .ref o, .null] [] m r h') : ∃ m1, r = none ∧ h' = zhp m1 ∧ m1 k 2 = m o 2 ∧ m1 k 3 = m o 3 ∧ m1 k 4 = m o 4 ∧ m1 k 5 = m o 5 ∧ (∀ i, i < c → ∀ b, b < 4 → m1 (k + 3 + i) b = m (o + 3 + i) b) ∧ (∀ i, i < a → m1 (k + 2) i = m (o + 2) i) ∧ ∀ a b, ¬ (k ≤ a ∧ a ≤ k + 7) → m1 a b = m a b := by
  have hko := lk_dj hk ho hne
  replace H := i_aln (q := 1) H I_X0_become_0 rfl rfl
  replace H := i_aln (q := 2) H I_X0_become_1 rfl rfl
  replace H := i_gfi (q := 5) H I_X0_become_2 G_0_26 cn_X0_become (lk_0 ho) rfl rfl
  replace H := i_pf (q := 8) H I_X0_become_5 G_0_26 cn_X0_become (lk_0 hk) rfl rfl
  replace H := i_icst (x := 0) (q := 9) H I_X0_become_8 (by decide) rfl
  replace H := i_isn (q := 10) H I_X0_become_9 rfl rfl
  obtain ⟨m2, H, n3, n4⟩ := bc_people hk ho hko h2 c 0 d r h' _ (by omega) (by rw [zup_s]; exact h1) H
  replace H := i_aln (q := 40) H I_X0_become_39 rfl rfl
  replace H := i_aln (q := 41) H I_X0_become_40 rfl rfl
  replace H := i_gfi (q := 44) H I_X0_become_41 G_0_29 cn_X0_become (lk_0 ho) rfl rfl
  replace H := i_pf (q := 47) H I_X0_become_44 G_0_29 cn_X0_become (lk_0 hk) rfl rfl
  replace H := i_icst (x := 0) (q := 48) H I_X0_become_47 (by decide) rfl
  replace H := i_isn (q := 49) H I_X0_become_48 rfl rfl
  obtain ⟨m3, H, p3, p4⟩ := bc_acts hk ho hko a1 a 0 d r h' _ (by omega) (by rw [zup_s, n4 _ _ (by omega), zup_n (by omega)]; exact a3) H
  replace H := i_aln (q := 76) H I_X0_become_75 rfl rfl
  replace H := i_aln (q := 77) H I_X0_become_76 rfl rfl
  replace H := i_gfi (q := 80) H I_X0_become_77 G_0_21 cn_X0_become (lk_0 ho) rfl rfl
  replace H := i_pf (q := 83) H I_X0_become_80 G_0_21 cn_X0_become (lk_0 hk) rfl rfl
  replace H := i_aln (q := 84) H I_X0_become_83 rfl rfl
  replace H := i_aln (q := 85) H I_X0_become_84 rfl rfl
  replace H := i_gfi (q := 88) H I_X0_become_85 G_0_32 cn_X0_become (lk_0 ho) rfl rfl
  replace H := i_pf (q := 91) H I_X0_become_88 G_0_32 cn_X0_become (lk_0 hk) rfl rfl
  obtain ⟨hr, hh⟩ := i_rt H I_X0_become_91
  refine ⟨_, hr, hh, ?_, ?_, ?_, ?_, fun i hi b hb => ?_, fun i hi => ?_, fun x b hab => ?_⟩
  · rw [zup_n (by omega), zup_n (by omega), p4 _ _ (by omega), zup_n (by omega), n4 _ _ (by omega), zup_s]
  · rw [zup_n (by omega), zup_n (by omega), p4 _ _ (by omega), zup_s, n4 _ _ (by omega), zup_n (by omega)]
  · rw [zup_n (by omega), zup_s, p4 _ _ (by omega), zup_n (by omega), n4 _ _ (by omega), zup_n (by omega)]
  · rw [zup_s, zup_n (by omega), p4 _ _ (by omega), zup_n (by omega), n4 _ _ (by omega), zup_n (by omega)]
  · rw [zup_n (by omega), zup_n (by omega), p4 _ _ (by omega), zup_n (by omega), n3 i (by omega) hi b hb, zup_n (by omega)]
  · rw [zup_n (by omega), zup_n (by omega), p3 i (by omega) hi, zup_n (by omega), n4 _ _ (by omega), zup_n (by omega)]
  · rw [zup_n (by omega), zup_n (by omega), p4 _ _ (by omega), zup_n (by omega), n4 _ _ (by omega), zup_n (by omega)]
theorem cp_loop {f t : Nat} (hft : f + 27 ≤ t ∨ t + 27 ≤ f) (hf : f + 27 ≤ 135) (ht : t + 27 ≤ 135) : ∀ (j i d : Nat) (r : Option Value) (h' : zHp) (m : zM), i + j = 27 → zE none d zm_X8_copies 2 [.ref 71, .int (Int32.ofNat f), .int (Int32.ofNat t), .int (Int32.ofNat i)] [] m r h' → ∃ m1, r = none ∧ h' = zhp m1 ∧ (∀ k, i ≤ k → k < 27 → m1 72 (t + k) = m 72 (f + k)) ∧ ∀ a b, ¬ (a = 72 ∧ t + i ≤ b ∧ b < t + 27) → m1 a b = m a b := by
  intro j
  induction j with
  | zero =>
    intro i d r h' m hj H
    replace H := i_iln (q := 3) H I_X8_copies_2 rfl rfl
    replace H := i_bip (x := 27) (q := 5) H I_X8_copies_3 (by decide) rfl
    have W := i_ic_ge (t := 30) (q := 8) H I_X8_copies_5 (by decide) rfl
    clear H
    rcases W with ⟨c_5, H⟩ | ⟨c_5, H⟩
    · skip
      obtain ⟨hr, hh⟩ := i_rt H I_X8_copies_30
      exact ⟨m, hr, hh, fun k h1 h2 => by omega, fun a b _ => rfl⟩
    · skip
      replace H := i_aln (q := 9) H I_X8_copies_8 rfl rfl
      replace H := i_gfr (q := 12) H I_X8_copies_9 G_8_7 cn_X8_copies LY_71 rfl rfl
      replace H := i_iln (q := 13) H I_X8_copies_12 rfl rfl
      replace H := i_iln (q := 14) H I_X8_copies_13 rfl rfl
      replace H := i_iadd (q := 15) H I_X8_copies_14 rfl
      replace H := i_aln (q := 16) H I_X8_copies_15 rfl rfl
      replace H := i_gfr (q := 19) H I_X8_copies_16 G_8_7 cn_X8_copies LY_71 rfl rfl
      replace H := i_iln (q := 20) H I_X8_copies_19 rfl rfl
      replace H := i_iln (q := 21) H I_X8_copies_20 rfl rfl
      replace H := i_iadd (q := 22) H I_X8_copies_21 rfl
      have W := i_ia (q := 23) H I_X8_copies_22 LY_72 rfl
      clear H
      obtain ⟨i_22, bi_22, ei_22, H⟩ := W
      have W := i_iast (q := 24) H I_X8_copies_23 LY_72 rfl
      clear H
      obtain ⟨i_23, bi_23, ei_23, H⟩ := W
      replace H := i_inc (q := 27) H I_X8_copies_24 rfl rfl rfl
      replace H := i_goto (q := 2) H I_X8_copies_27 (by decide)
      exfalso
      exact absurd ((zofn_lt (j := 27) (by omega) (by decide)).mp c_5) (by omega)
  | succ j ih =>
    intro i d r h' m hj H
    replace H := i_iln (q := 3) H I_X8_copies_2 rfl rfl
    replace H := i_bip (x := 27) (q := 5) H I_X8_copies_3 (by decide) rfl
    have W := i_ic_ge (t := 30) (q := 8) H I_X8_copies_5 (by decide) rfl
    clear H
    rcases W with ⟨c_5, H⟩ | ⟨c_5, H⟩
    · skip
      obtain ⟨hr, hh⟩ := i_rt H I_X8_copies_30
      exfalso
      exact c_5 ((zofn_lt (j := 27) (by omega) (by decide)).mpr (by omega))
    · skip
      replace H := i_aln (q := 9) H I_X8_copies_8 rfl rfl
      replace H := i_gfr (q := 12) H I_X8_copies_9 G_8_7 cn_X8_copies LY_71 rfl rfl
      replace H := i_iln (q := 13) H I_X8_copies_12 rfl rfl
      replace H := i_iln (q := 14) H I_X8_copies_13 rfl rfl
      replace H := i_iadd (q := 15) H I_X8_copies_14 rfl
      replace H := i_aln (q := 16) H I_X8_copies_15 rfl rfl
      replace H := i_gfr (q := 19) H I_X8_copies_16 G_8_7 cn_X8_copies LY_71 rfl rfl
      replace H := i_iln (q := 20) H I_X8_copies_19 rfl rfl
      replace H := i_iln (q := 21) H I_X8_copies_20 rfl rfl
      replace H := i_iadd (q := 22) H I_X8_copies_21 rfl
      have W := i_ia (q := 23) H I_X8_copies_22 LY_72 rfl
      clear H
      obtain ⟨i_22, bi_22, ei_22, H⟩ := W
      have W := i_iast (q := 24) H I_X8_copies_23 LY_72 rfl
      clear H
      obtain ⟨i_23, bi_23, ei_23, H⟩ := W
      replace H := i_inc (q := 27) H I_X8_copies_24 rfl rfl rfl
      replace H := i_goto (q := 2) H I_X8_copies_27 (by decide)
      rw [← Int32.ofNat_add] at ei_22 ei_23
      have e : f + i = i_22 := zofn ei_22 (by omega) (by omega)
      subst e
      have e : t + i = i_23 := zofn ei_23 (by omega) (by omega)
      subst e
      replace H : zE none d zm_X8_copies 2 [.ref 71, .int (Int32.ofNat f), .int (Int32.ofNat t), .int (Int32.ofNat (i + 1))] [] (zup m 72 (t + i) (m 72 (f + i))) r h' := by
        rw [zofn_s] at H
        exact H
      obtain ⟨m1, g1, g2, g3, g4⟩ := ih (i + 1) d r h' _ (by omega) H
      refine ⟨m1, g1, g2, fun k h1 h2 => ?_, fun a b hab => ?_⟩
      · by_cases hi' : k = i
        · subst hi'
          rw [g4 _ _ (by omega), zup_s]
        · rw [g3 k (by omega) h2, zup_n (by omega)]
      · rw [g4 a b (by omega), zup_n (by omega)]
theorem t_X8_copies {d : Nat} {m : zM} {r : Option Value} {h' : zHp} {x y : Int32} {f t : Nat} (hx : x = Int32.ofNat f) (hy : y = Int32.ofNat t) (hft : f + 27 ≤ t ∨ t + 27 ≤ f) (hf : f + 27 ≤ 135) (ht : t + 27 ≤ 135) (H : zE none d zm_X8_copies 0 [.ref 71, .int x, .int y, .null] [] m r h') : ∃ m1, r = none ∧ h' = zhp m1 ∧ (∀ k, k < 27 → m1 72 (t + k) = m 72 (f + k)) ∧ ∀ a b, ¬ (a = 72 ∧ t ≤ b ∧ b < t + 27) → m1 a b = m a b := by
  subst hx
  subst hy
  replace H := i_icst (x := 0) (q := 1) H I_X8_copies_0 (by decide) rfl
  replace H := i_isn (q := 2) H I_X8_copies_1 rfl rfl
  obtain ⟨m1, g1, g2, g3, g4⟩ := cp_loop hft hf ht 27 0 d r h' m rfl H
  exact ⟨m1, g1, g2, fun k hk => g3 k (by omega) hk, fun a b hab => g4 a b (by omega)⟩
theorem z_nar1 {t : Nat ⊕ Nat} : vp_nar (if t = Sum.inl 1 then .byte else .boolean) 1 = 1 := by
  split <;> decide
/-- the number of an image -/
abbrev zKo (x : Int32) : Prop := ¬ x < 0 ∧ x < 2
theorem zKo_n {x : Int32} (h : zKo x) : ∃ k, k < 2 ∧ x = Int32.ofNat k := zlt_n (y := 2) (n := 2) rfl (by omega) h
theorem zin_01 {x : Int32} {a b : Int64} (ha : a.toInt = 0) (hb : b.toInt = 1) : zin64 x.toInt64 a b = if zKo x then 1 else 0 := by
  have e : b.toInt = (1 : Int32).toInt := hb
  rw [zin_bt (lo := 0) (hi := 1) ha e]
  have e1 : (1 : Int32) < x ↔ ¬ x < 2 := by
    rw [Int32.lt_iff_toInt_lt, Int32.lt_iff_toInt_lt]
    have e2 : (1 : Int32).toInt = 1 := rfl
    have e3 : (2 : Int32).toInt = 2 := rfl
    omega
  by_cases h1 : x < 0
  · rw [if_neg (fun w => w.1 h1), if_neg (fun w => w.1 h1)]
  · by_cases h2 : x < 2
    · rw [if_pos ⟨h1, fun w => e1.mp w h2⟩, if_pos ⟨h1, h2⟩]
    · rw [if_neg (fun w => w.2 (e1.mpr h2)), if_neg (fun w => h2 w.2)]
/-- lock k has become lock o: c people, a acts -/
def zbc (m m1 : zM) (k o c a : Nat) : Prop := m1 k 2 = m o 2 ∧ m1 k 3 = m o 3 ∧ m1 k 4 = m o 4 ∧ m1 k 5 = m o 5 ∧ (∀ i, i < c → ∀ b, b < 4 → m1 (k + 3 + i) b = m (o + 3 + i) b) ∧ (∀ i, i < a → m1 (k + 2) i = m (o + 2) i)
theorem t_X7_keep {d : Nat} {m : zM} {r : Option Value} {h' : zHp} {x : Int32} {c a : Nat} (hc : m 11 2 = Int32.ofNat c) (hc5 : c ≤ 5) (ha : m 11 3 = Int32.ofNat a) (ha8 : a ≤ 8) (H : zE none d zm_X7_keep 0 [.ref 0, .int x, .null] [] m r h') : ∃ m1 v, r = some (.int v) ∧ h' = zhp m1 ∧ ((¬ zKo x ∧ v = -1 ∧ m1 = m) ∨ (zKo x ∧ ∃ k, k < 2 ∧ x = Int32.ofNat k ∧ v = (if m 45 k = 0 then 0 else 1) ∧ zbc m m1 (47 + 8 * k) 11 c a ∧ m1 45 k = 1 ∧ ∀ a b, ¬ (47 + 8 * k ≤ a ∧ a ≤ 47 + 8 * k + 7) → ¬ (a = 45 ∧ b = k) → m1 a b = m a b)) := by
  replace H := i_iln (q := 1) H I_X7_keep_0 rfl rfl
  have W := i_if_lt (t := 9) (q := 4) H I_X7_keep_1 (by decide) rfl
  clear H
  rcases W with ⟨c_1, H⟩ | ⟨c_1, H⟩
  · skip
    replace H := i_icst (x := (-1)) (q := 10) H I_X7_keep_9 (by decide) rfl
    obtain ⟨hr, hh⟩ := i_ir H I_X7_keep_10
    exact ⟨_, _, hr, hh, Or.inl ⟨fun w => w.1 c_1, rfl, rfl⟩⟩
  · skip
    replace H := i_iln (q := 5) H I_X7_keep_4 rfl rfl
    replace H := i_icst (x := 2) (q := 6) H I_X7_keep_5 (by decide) rfl
    have W := i_ic_lt (t := 11) (q := 9) H I_X7_keep_6 (by decide) rfl
    clear H
    rcases W with ⟨c_6, H⟩ | ⟨c_6, H⟩
    · skip
      replace H := i_aln (q := 12) H I_X7_keep_11 rfl rfl
      replace H := i_gfr (q := 15) H I_X7_keep_12 G_7_48 cn_X7_keep LY_0 rfl rfl
      replace H := i_iln (q := 16) H I_X7_keep_15 rfl rfl
      have W := i_ba (q := 17) H I_X7_keep_16 LY_45 rfl
      clear H
      obtain ⟨i_16, bi_16, ei_16, H⟩ := W
      have W := i_if_eq (t := 24) (q := 20) H I_X7_keep_17 (by decide) rfl
      clear H
      rcases W with ⟨c_17, H⟩ | ⟨c_17, H⟩
      · skip
        replace H := i_icst (x := 0) (q := 25) H I_X7_keep_24 (by decide) rfl
        replace H := i_isn (q := 26) H I_X7_keep_25 rfl rfl
        replace H := i_aln (q := 27) H I_X7_keep_26 rfl rfl
        replace H := i_gfr (q := 30) H I_X7_keep_27 G_7_44 cn_X7_keep LY_0 rfl rfl
        replace H := i_iln (q := 31) H I_X7_keep_30 rfl rfl
        have W := i_img (q := 32) H I_X7_keep_31 rfl
        clear H
        obtain ⟨i_31, bi_31, ei_31, H⟩ := W
        replace H := i_aln (q := 33) H I_X7_keep_32 rfl rfl
        replace H := i_gfr (q := 36) H I_X7_keep_33 G_7_19 cn_X7_keep LY_0 rfl rfl
        have W := i_cv1 1 (q := 39) H I_X7_keep_36 K_7_77 Zm_2 rfl rfl
        clear H
        obtain ⟨r1, h1, Hc, K1, K2⟩ := W
        obtain ⟨M_36, e1, e2, F_36⟩ := t_become (lk_im bi_31) lkk_11 (by omega) hc hc5 ha ha8 Hc
        have H := K2 _ e1 e2
        clear e1 e2 Hc K1 K2
        replace H := i_aln (q := 40) H I_X7_keep_39 rfl rfl
        replace H := i_gfr (q := 43) H I_X7_keep_40 G_7_48 cn_X7_keep LY_0 rfl rfl
        replace H := i_iln (q := 44) H I_X7_keep_43 rfl rfl
        replace H := i_icst (x := 1) (q := 45) H I_X7_keep_44 (by decide) rfl
        have W := i_bast (q := 46) H I_X7_keep_45 LY_45 rfl
        clear H
        obtain ⟨i_45, bi_45, ei_45, H⟩ := W
        replace H := i_iln (q := 47) H I_X7_keep_46 rfl rfl
        obtain ⟨hr, hh⟩ := i_ir H I_X7_keep_47
        obtain ⟨g2, g3, g4, g5, g6, g7, g8⟩ := F_36
        have i1 : i_31 = i_16 := zofn (ei_31.symm.trans ei_16) (by omega) (by omega)
        subst i1
        have i2 : i_45 = i_31 := zofn (ei_45.symm.trans ei_31) (by omega) (by omega)
        subst i2
        rw [z_nar1] at hh
        refine ⟨_, _, hr, hh, Or.inr ⟨⟨c_1, c_6⟩, i_45, bi_45, ei_45, by rw [if_pos c_17], ⟨?_, ?_, ?_, ?_, fun i hi b hb => ?_, fun i hi => ?_⟩, by rw [zup_s], fun a b h1 h2 => ?_⟩⟩
        · rw [zup_n (by omega)]; exact g2
        · rw [zup_n (by omega)]; exact g3
        · rw [zup_n (by omega)]; exact g4
        · rw [zup_n (by omega)]; exact g5
        · rw [zup_n (by omega)]; exact g6 i hi b hb
        · rw [zup_n (by omega)]; exact g7 i hi
        · rw [zup_n (by omega)]; exact g8 a b h1
      · skip
        replace H := i_icst (x := 1) (q := 21) H I_X7_keep_20 (by decide) rfl
        replace H := i_goto (q := 25) H I_X7_keep_21 (by decide)
        replace H := i_isn (q := 26) H I_X7_keep_25 rfl rfl
        replace H := i_aln (q := 27) H I_X7_keep_26 rfl rfl
        replace H := i_gfr (q := 30) H I_X7_keep_27 G_7_44 cn_X7_keep LY_0 rfl rfl
        replace H := i_iln (q := 31) H I_X7_keep_30 rfl rfl
        have W := i_img (q := 32) H I_X7_keep_31 rfl
        clear H
        obtain ⟨i_31, bi_31, ei_31, H⟩ := W
        replace H := i_aln (q := 33) H I_X7_keep_32 rfl rfl
        replace H := i_gfr (q := 36) H I_X7_keep_33 G_7_19 cn_X7_keep LY_0 rfl rfl
        have W := i_cv1 1 (q := 39) H I_X7_keep_36 K_7_77 Zm_2 rfl rfl
        clear H
        obtain ⟨r1, h1, Hc, K1, K2⟩ := W
        obtain ⟨M_36, e1, e2, F_36⟩ := t_become (lk_im bi_31) lkk_11 (by omega) hc hc5 ha ha8 Hc
        have H := K2 _ e1 e2
        clear e1 e2 Hc K1 K2
        replace H := i_aln (q := 40) H I_X7_keep_39 rfl rfl
        replace H := i_gfr (q := 43) H I_X7_keep_40 G_7_48 cn_X7_keep LY_0 rfl rfl
        replace H := i_iln (q := 44) H I_X7_keep_43 rfl rfl
        replace H := i_icst (x := 1) (q := 45) H I_X7_keep_44 (by decide) rfl
        have W := i_bast (q := 46) H I_X7_keep_45 LY_45 rfl
        clear H
        obtain ⟨i_45, bi_45, ei_45, H⟩ := W
        replace H := i_iln (q := 47) H I_X7_keep_46 rfl rfl
        obtain ⟨hr, hh⟩ := i_ir H I_X7_keep_47
        obtain ⟨g2, g3, g4, g5, g6, g7, g8⟩ := F_36
        have i1 : i_31 = i_16 := zofn (ei_31.symm.trans ei_16) (by omega) (by omega)
        subst i1
        have i2 : i_45 = i_31 := zofn (ei_45.symm.trans ei_31) (by omega) (by omega)
        subst i2
        rw [z_nar1] at hh
        refine ⟨_, _, hr, hh, Or.inr ⟨⟨c_1, c_6⟩, i_45, bi_45, ei_45, by rw [if_neg c_17], ⟨?_, ?_, ?_, ?_, fun i hi b hb => ?_, fun i hi => ?_⟩, by rw [zup_s], fun a b h1 h2 => ?_⟩⟩
        · rw [zup_n (by omega)]; exact g2
        · rw [zup_n (by omega)]; exact g3
        · rw [zup_n (by omega)]; exact g4
        · rw [zup_n (by omega)]; exact g5
        · rw [zup_n (by omega)]; exact g6 i hi b hb
        · rw [zup_n (by omega)]; exact g7 i hi
        · rw [zup_n (by omega)]; exact g8 a b h1
    · skip
      replace H := i_icst (x := (-1)) (q := 10) H I_X7_keep_9 (by decide) rfl
      obtain ⟨hr, hh⟩ := i_ir H I_X7_keep_10
      exact ⟨_, _, hr, hh, Or.inl ⟨fun w => c_6 w.2, rfl, rfl⟩⟩
theorem t_X8_keep {d : Nat} {m : zM} {r : Option Value} {h' : zHp} {x : Int32}  (H : zE none d zm_X8_keep 0 [.ref 71, .int x, .null] [] m r h') : ∃ m1 v, r = some (.int v) ∧ h' = zhp m1 ∧ ((¬ zKo x ∧ v = -1 ∧ m1 = m) ∨ (zKo x ∧ ∃ k, k < 2 ∧ x = Int32.ofNat k ∧ v = (if m 82 k = 0 then 0 else 1) ∧ (∀ j, j < 27 → m1 72 (27 * (k + 1) + j) = m 72 j) ∧ m1 82 k = 1 ∧ ∀ a b, ¬ (a = 72 ∧ 27 * (k + 1) ≤ b ∧ b < 27 * (k + 1) + 27) → ¬ (a = 82 ∧ b = k) → m1 a b = m a b)) := by
  replace H := i_iln (q := 1) H I_X8_keep_0 rfl rfl
  replace H := i_i2l (q := 2) H I_X8_keep_1 rfl
  replace H := i_lcst (x := 0) (q := 3) H I_X8_keep_2 (by decide) rfl
  replace H := i_lcst (x := 1) (q := 4) H I_X8_keep_3 (by decide) rfl
  replace H := i_in (q := 7) H I_X8_keep_4 K_8_55 rfl
  have W := i_if_ne (t := 12) (q := 10) H I_X8_keep_7 (by decide) rfl
  clear H
  rcases W with ⟨c_7, H⟩ | ⟨c_7, H⟩
  · skip
    replace H := i_aln (q := 13) H I_X8_keep_12 rfl rfl
    replace H := i_icst (x := 0) (q := 14) H I_X8_keep_13 (by decide) rfl
    replace H := i_bip (x := 27) (q := 16) H I_X8_keep_14 (by decide) rfl
    replace H := i_iln (q := 17) H I_X8_keep_16 rfl rfl
    replace H := i_icst (x := 1) (q := 18) H I_X8_keep_17 (by decide) rfl
    replace H := i_iadd (q := 19) H I_X8_keep_18 rfl
    replace H := i_imul (q := 20) H I_X8_keep_19 rfl
    have W := i_cv2 1 (q := 23) H I_X8_keep_20 K_8_188 Zm_147 rfl rfl
    clear H
    obtain ⟨r1, h1, Hc, K1, K2⟩ := W
    obtain ⟨k, hk2, hxk⟩ : ∃ k, k < 2 ∧ x = Int32.ofNat k := by
      rw [zin_01 rfl rfl] at c_7
      exact zKo_n (zif1 c_7)
    have hto : (27 : Int32) * (x + 1) = Int32.ofNat (27 * (k + 1)) := by
      rcases (by omega : k = 0 ∨ k = 1) with rfl | rfl <;> rw [hxk] <;> rfl
    obtain ⟨M_20, e1, e2, F_20⟩ := t_X8_copies (f := 0) (t := 27 * (k + 1)) rfl hto (by omega) (by omega) (by omega) Hc
    have H := K2 _ e1 e2
    clear e1 e2 Hc K1 K2
    replace H := i_aln (q := 24) H I_X8_keep_23 rfl rfl
    replace H := i_gfr (q := 27) H I_X8_keep_24 G_8_41 cn_X8_keep LY_71 rfl rfl
    replace H := i_iln (q := 28) H I_X8_keep_27 rfl rfl
    have W := i_ba (q := 29) H I_X8_keep_28 LY_82 rfl
    clear H
    obtain ⟨i_28, bi_28, ei_28, H⟩ := W
    have W := i_if_eq (t := 36) (q := 32) H I_X8_keep_29 (by decide) rfl
    clear H
    rcases W with ⟨c_29, H⟩ | ⟨c_29, H⟩
    · skip
      replace H := i_icst (x := 0) (q := 37) H I_X8_keep_36 (by decide) rfl
      replace H := i_isn (q := 38) H I_X8_keep_37 rfl rfl
      replace H := i_aln (q := 39) H I_X8_keep_38 rfl rfl
      replace H := i_gfr (q := 42) H I_X8_keep_39 G_8_41 cn_X8_keep LY_71 rfl rfl
      replace H := i_iln (q := 43) H I_X8_keep_42 rfl rfl
      replace H := i_icst (x := 1) (q := 44) H I_X8_keep_43 (by decide) rfl
      have W := i_bast (q := 45) H I_X8_keep_44 LY_82 rfl
      clear H
      obtain ⟨i_44, bi_44, ei_44, H⟩ := W
      replace H := i_iln (q := 46) H I_X8_keep_45 rfl rfl
      obtain ⟨hr, hh⟩ := i_ir H I_X8_keep_46
      rw [zin_01 rfl rfl] at c_7
      have hok := zif1 c_7
      obtain ⟨g3, g4⟩ := F_20
      have i2 : i_28 = k := zofn (ei_28.symm.trans hxk) (by omega) (by omega)
      subst i2
      have i3 : i_44 = i_28 := zofn (ei_44.symm.trans hxk) (by omega) (by omega)
      subst i3
      rw [z_nar1] at hh
      rw [g4 82 _ (by omega)] at c_29
      refine ⟨_, _, hr, hh, Or.inr ⟨hok, _, hk2, hxk, by rw [if_pos c_29], fun j hj => ?_, by rw [zup_s], fun a b h1 h2 => ?_⟩⟩
      · rw [zup_n (by omega)]; have := g3 j hj; rw [Nat.zero_add] at this; exact this
      · rw [zup_n (by omega)]; exact g4 a b (by omega)
    · skip
      replace H := i_icst (x := 1) (q := 33) H I_X8_keep_32 (by decide) rfl
      replace H := i_goto (q := 37) H I_X8_keep_33 (by decide)
      replace H := i_isn (q := 38) H I_X8_keep_37 rfl rfl
      replace H := i_aln (q := 39) H I_X8_keep_38 rfl rfl
      replace H := i_gfr (q := 42) H I_X8_keep_39 G_8_41 cn_X8_keep LY_71 rfl rfl
      replace H := i_iln (q := 43) H I_X8_keep_42 rfl rfl
      replace H := i_icst (x := 1) (q := 44) H I_X8_keep_43 (by decide) rfl
      have W := i_bast (q := 45) H I_X8_keep_44 LY_82 rfl
      clear H
      obtain ⟨i_44, bi_44, ei_44, H⟩ := W
      replace H := i_iln (q := 46) H I_X8_keep_45 rfl rfl
      obtain ⟨hr, hh⟩ := i_ir H I_X8_keep_46
      rw [zin_01 rfl rfl] at c_7
      have hok := zif1 c_7
      obtain ⟨g3, g4⟩ := F_20
      have i2 : i_28 = k := zofn (ei_28.symm.trans hxk) (by omega) (by omega)
      subst i2
      have i3 : i_44 = i_28 := zofn (ei_44.symm.trans hxk) (by omega) (by omega)
      subst i3
      rw [z_nar1] at hh
      rw [g4 82 _ (by omega)] at c_29
      refine ⟨_, _, hr, hh, Or.inr ⟨hok, _, hk2, hxk, by rw [if_neg c_29], fun j hj => ?_, by rw [zup_s], fun a b h1 h2 => ?_⟩⟩
      · rw [zup_n (by omega)]; have := g3 j hj; rw [Nat.zero_add] at this; exact this
      · rw [zup_n (by omega)]; exact g4 a b (by omega)
  · skip
    replace H := i_icst (x := (-1)) (q := 11) H I_X8_keep_10 (by decide) rfl
    obtain ⟨hr, hh⟩ := i_ir H I_X8_keep_11
    rw [zin_01 rfl rfl] at c_7
    exact ⟨_, _, hr, hh, Or.inl ⟨zif0 c_7, rfl, rfl⟩⟩
theorem t_X7_back {d : Nat} {m : zM} {r : Option Value} {h' : zHp} {x : Int32} {c : Nat} {ca : Nat → Nat} (hc5 : c ≤ 5) (hI : ∀ k, k < 2 → ¬ m 45 k = 0 → m (47 + 8 * k) 2 = Int32.ofNat c ∧ m (47 + 8 * k) 3 = Int32.ofNat (ca k) ∧ ca k ≤ 8) (H : zE none d zm_X7_back 0 [.ref 0, .int x] [] m r h') : ∃ m1 v, r = some (.int v) ∧ h' = zhp m1 ∧ ((¬ zKo x ∧ v = -1 ∧ m1 = m) ∨ (zKo x ∧ ∃ k, k < 2 ∧ x = Int32.ofNat k ∧ m 45 k = 0 ∧ v = -2 ∧ m1 = m) ∨ (zKo x ∧ ∃ k, k < 2 ∧ x = Int32.ofNat k ∧ ¬ m 45 k = 0 ∧ v = m1 11 5 ∧ zbc m m1 11 (47 + 8 * k) c (ca k) ∧ ∀ a b, ¬ (11 ≤ a ∧ a ≤ 11 + 7) → m1 a b = m a b)) := by
  replace H := i_iln (q := 1) H I_X7_back_0 rfl rfl
  have W := i_if_lt (t := 9) (q := 4) H I_X7_back_1 (by decide) rfl
  clear H
  rcases W with ⟨c_1, H⟩ | ⟨c_1, H⟩
  · skip
    replace H := i_icst (x := (-1)) (q := 10) H I_X7_back_9 (by decide) rfl
    obtain ⟨hr, hh⟩ := i_ir H I_X7_back_10
    exact ⟨_, _, hr, hh, Or.inl ⟨fun w => w.1 c_1, rfl, rfl⟩⟩
  · skip
    replace H := i_iln (q := 5) H I_X7_back_4 rfl rfl
    replace H := i_icst (x := 2) (q := 6) H I_X7_back_5 (by decide) rfl
    have W := i_ic_lt (t := 11) (q := 9) H I_X7_back_6 (by decide) rfl
    clear H
    rcases W with ⟨c_6, H⟩ | ⟨c_6, H⟩
    · skip
      replace H := i_aln (q := 12) H I_X7_back_11 rfl rfl
      replace H := i_gfr (q := 15) H I_X7_back_12 G_7_48 cn_X7_back LY_0 rfl rfl
      replace H := i_iln (q := 16) H I_X7_back_15 rfl rfl
      have W := i_ba (q := 17) H I_X7_back_16 LY_45 rfl
      clear H
      obtain ⟨i_16, bi_16, ei_16, H⟩ := W
      have W := i_if_ne (t := 23) (q := 20) H I_X7_back_17 (by decide) rfl
      clear H
      rcases W with ⟨c_17, H⟩ | ⟨c_17, H⟩
      · skip
        replace H := i_aln (q := 24) H I_X7_back_23 rfl rfl
        replace H := i_gfr (q := 27) H I_X7_back_24 G_7_19 cn_X7_back LY_0 rfl rfl
        replace H := i_aln (q := 28) H I_X7_back_27 rfl rfl
        replace H := i_gfr (q := 31) H I_X7_back_28 G_7_44 cn_X7_back LY_0 rfl rfl
        replace H := i_iln (q := 32) H I_X7_back_31 rfl rfl
        have W := i_img (q := 33) H I_X7_back_32 rfl
        clear H
        obtain ⟨i_32, bi_32, ei_32, H⟩ := W
        have W := i_cv1 1 (q := 36) H I_X7_back_33 K_7_77 Zm_2 rfl rfl
        clear H
        obtain ⟨r1, h1, Hc, K1, K2⟩ := W
        have i1 : i_32 = i_16 := zofn (ei_32.symm.trans ei_16) (by omega) (by omega)
        have hkp : ¬ m 45 i_32 = 0 := by rw [i1]; exact c_17
        obtain ⟨M_33, e1, e2, F_33⟩ := t_become (c := c) (a := ca i_32) lkk_11 (lk_im bi_32) (by omega) (hI i_32 bi_32 hkp).1 hc5 (hI i_32 bi_32 hkp).2.1 (hI i_32 bi_32 hkp).2.2 Hc
        have H := K2 _ e1 e2
        clear e1 e2 Hc K1 K2
        clear i1 hkp
        replace H := i_aln (q := 37) H I_X7_back_36 rfl rfl
        replace H := i_gfr (q := 40) H I_X7_back_37 G_7_19 cn_X7_back LY_0 rfl rfl
        replace H := i_gfi (q := 43) H I_X7_back_40 G_7_96 cn_X7_back LY_11 rfl rfl
        obtain ⟨hr, hh⟩ := i_ir H I_X7_back_43
        obtain ⟨g2, g3, g4, g5, g6, g7, g8⟩ := F_33
        have i1 : i_32 = i_16 := zofn (ei_32.symm.trans ei_16) (by omega) (by omega)
        subst i1
        exact ⟨_, _, hr, hh, Or.inr (Or.inr ⟨⟨c_1, c_6⟩, i_32, bi_16, ei_16, c_17, rfl, ⟨g2, g3, g4, g5, g6, g7⟩, g8⟩)⟩
      · skip
        replace H := i_bip (x := (-2)) (q := 22) H I_X7_back_20 (by decide) rfl
        obtain ⟨hr, hh⟩ := i_ir H I_X7_back_22
        exact ⟨_, _, hr, hh, Or.inr (Or.inl ⟨⟨c_1, c_6⟩, i_16, bi_16, ei_16, c_17, rfl, rfl⟩)⟩
    · skip
      replace H := i_icst (x := (-1)) (q := 10) H I_X7_back_9 (by decide) rfl
      obtain ⟨hr, hh⟩ := i_ir H I_X7_back_10
      exact ⟨_, _, hr, hh, Or.inl ⟨fun w => c_6 w.2, rfl, rfl⟩⟩
theorem t_X8_back {d : Nat} {m : zM} {r : Option Value} {h' : zHp} {x : Int32}  (H : zE none d zm_X8_back 0 [.ref 71, .int x] [] m r h') : ∃ m1 v, r = some (.int v) ∧ h' = zhp m1 ∧ ((¬ zKo x ∧ v = -1 ∧ m1 = m) ∨ (zKo x ∧ ∃ k, k < 2 ∧ x = Int32.ofNat k ∧ m 82 k = 0 ∧ v = -2 ∧ m1 = m) ∨ (zKo x ∧ ∃ k, k < 2 ∧ x = Int32.ofNat k ∧ ¬ m 82 k = 0 ∧ v = m1 72 17 ∧ (∀ j, j < 27 → m1 72 j = m 72 (27 * (k + 1) + j)) ∧ ∀ a b, ¬ (a = 72 ∧ b < 27) → m1 a b = m a b)) := by
  replace H := i_iln (q := 1) H I_X8_back_0 rfl rfl
  replace H := i_i2l (q := 2) H I_X8_back_1 rfl
  replace H := i_lcst (x := 0) (q := 3) H I_X8_back_2 (by decide) rfl
  replace H := i_lcst (x := 1) (q := 4) H I_X8_back_3 (by decide) rfl
  replace H := i_in (q := 7) H I_X8_back_4 K_8_55 rfl
  have W := i_if_ne (t := 12) (q := 10) H I_X8_back_7 (by decide) rfl
  clear H
  rcases W with ⟨c_7, H⟩ | ⟨c_7, H⟩
  · skip
    replace H := i_aln (q := 13) H I_X8_back_12 rfl rfl
    replace H := i_gfr (q := 16) H I_X8_back_13 G_8_41 cn_X8_back LY_71 rfl rfl
    replace H := i_iln (q := 17) H I_X8_back_16 rfl rfl
    have W := i_ba (q := 18) H I_X8_back_17 LY_82 rfl
    clear H
    obtain ⟨i_17, bi_17, ei_17, H⟩ := W
    have W := i_if_ne (t := 24) (q := 21) H I_X8_back_18 (by decide) rfl
    clear H
    rcases W with ⟨c_18, H⟩ | ⟨c_18, H⟩
    · skip
      replace H := i_aln (q := 25) H I_X8_back_24 rfl rfl
      replace H := i_bip (x := 27) (q := 27) H I_X8_back_25 (by decide) rfl
      replace H := i_iln (q := 28) H I_X8_back_27 rfl rfl
      replace H := i_icst (x := 1) (q := 29) H I_X8_back_28 (by decide) rfl
      replace H := i_iadd (q := 30) H I_X8_back_29 rfl
      replace H := i_imul (q := 31) H I_X8_back_30 rfl
      replace H := i_icst (x := 0) (q := 32) H I_X8_back_31 (by decide) rfl
      have W := i_cv2 1 (q := 35) H I_X8_back_32 K_8_188 Zm_147 rfl rfl
      clear H
      obtain ⟨r1, h1, Hc, K1, K2⟩ := W
      have hto : (27 : Int32) * (x + 1) = Int32.ofNat (27 * (i_17 + 1)) := by
        rcases (by omega : i_17 = 0 ∨ i_17 = 1) with e | e <;> rw [ei_17, e] <;> rfl
      obtain ⟨M_32, e1, e2, F_32⟩ := t_X8_copies (f := 27 * (i_17 + 1)) (t := 0) hto rfl (by omega) (by omega) (by omega) Hc
      have H := K2 _ e1 e2
      clear e1 e2 Hc K1 K2
      replace H := i_aln (q := 36) H I_X8_back_35 rfl rfl
      replace H := i_gfr (q := 39) H I_X8_back_36 G_8_7 cn_X8_back LY_71 rfl rfl
      replace H := i_bip (x := 17) (q := 41) H I_X8_back_39 (by decide) rfl
      have W := i_ia (q := 42) H I_X8_back_41 LY_72 rfl
      clear H
      obtain ⟨i_41, bi_41, ei_41, H⟩ := W
      obtain ⟨hr, hh⟩ := i_ir H I_X8_back_42
      rw [zin_01 rfl rfl] at c_7
      obtain ⟨g3, g4⟩ := F_32
      have i2 : i_41 = 17 := (zofn (i := 17) ei_41 (by decide) (by omega)).symm
      subst i2
      exact ⟨_, _, hr, hh, Or.inr (Or.inr ⟨zif1 c_7, i_17, bi_17, ei_17, c_18, rfl, fun j hj => by have := g3 j hj; rw [Nat.zero_add] at this; exact this, fun a b h => g4 a b (by omega)⟩)⟩
    · skip
      replace H := i_bip (x := (-2)) (q := 23) H I_X8_back_21 (by decide) rfl
      obtain ⟨hr, hh⟩ := i_ir H I_X8_back_23
      rw [zin_01 rfl rfl] at c_7
      exact ⟨_, _, hr, hh, Or.inr (Or.inl ⟨zif1 c_7, i_17, bi_17, ei_17, c_18, rfl, rfl⟩)⟩
  · skip
    replace H := i_icst (x := (-1)) (q := 11) H I_X8_back_10 (by decide) rfl
    obtain ⟨hr, hh⟩ := i_ir H I_X8_back_11
    rw [zin_01 rfl rfl] at c_7
    exact ⟨_, _, hr, hh, Or.inl ⟨zif0 c_7, rfl, rfl⟩⟩
end
section
/-! see -/
theorem It_X6_note : zm_X6_note.2.2.2.2.2 = zt_X6_note := by
  unfold zm_X6_note
  rfl
theorem It_X7_see : zm_X7_see.2.2.2.2.2 = zt_X7_see := by
  unfold zm_X7_see
  rfl
theorem It_X8_see : zm_X8_see.2.2.2.2.2 = zt_X8_see := by
  unfold zm_X8_see
  rfl
theorem I_X6_note_0 : zin zm_X6_note.2.2.2.2.2 0 = some (.aload_n 0, 1) := by rw [It_X6_note]; rfl
theorem I_X6_note_1 : zin zm_X6_note.2.2.2.2.2 1 = some (.getfield 9, 3) := by rw [It_X6_note]; rfl
theorem I_X6_note_4 : zin zm_X6_note.2.2.2.2.2 4 = some (.aload_n 0, 1) := by rw [It_X6_note]; rfl
theorem I_X6_note_5 : zin zm_X6_note.2.2.2.2.2 5 = some (.getfield 21, 3) := by rw [It_X6_note]; rfl
theorem I_X6_note_8 : zin zm_X6_note.2.2.2.2.2 8 = some (.iload_n 1, 1) := by rw [It_X6_note]; rfl
theorem I_X6_note_9 : zin zm_X6_note.2.2.2.2.2 9 = some (.iastore, 1) := by rw [It_X6_note]; rfl
theorem I_X6_note_10 : zin zm_X6_note.2.2.2.2.2 10 = some (.aload_n 0, 1) := by rw [It_X6_note]; rfl
theorem I_X6_note_11 : zin zm_X6_note.2.2.2.2.2 11 = some (.getfield 15, 3) := by rw [It_X6_note]; rfl
theorem I_X6_note_14 : zin zm_X6_note.2.2.2.2.2 14 = some (.aload_n 0, 1) := by rw [It_X6_note]; rfl
theorem I_X6_note_15 : zin zm_X6_note.2.2.2.2.2 15 = some (.getfield 21, 3) := by rw [It_X6_note]; rfl
theorem I_X6_note_18 : zin zm_X6_note.2.2.2.2.2 18 = some (.iload_n 2, 1) := by rw [It_X6_note]; rfl
theorem I_X6_note_19 : zin zm_X6_note.2.2.2.2.2 19 = some (.iastore, 1) := by rw [It_X6_note]; rfl
theorem I_X6_note_20 : zin zm_X6_note.2.2.2.2.2 20 = some (.aload_n 0, 1) := by rw [It_X6_note]; rfl
theorem I_X6_note_21 : zin zm_X6_note.2.2.2.2.2 21 = some (.dup, 1) := by rw [It_X6_note]; rfl
theorem I_X6_note_22 : zin zm_X6_note.2.2.2.2.2 22 = some (.getfield 21, 3) := by rw [It_X6_note]; rfl
theorem I_X6_note_25 : zin zm_X6_note.2.2.2.2.2 25 = some (.iconst 1, 1) := by rw [It_X6_note]; rfl
theorem I_X6_note_26 : zin zm_X6_note.2.2.2.2.2 26 = some (.iadd, 1) := by rw [It_X6_note]; rfl
theorem I_X6_note_27 : zin zm_X6_note.2.2.2.2.2 27 = some (.putfield 21, 3) := by rw [It_X6_note]; rfl
theorem I_X6_note_30 : zin zm_X6_note.2.2.2.2.2 30 = some (.return_, 1) := by rw [It_X6_note]; rfl
theorem I_X7_see_0 : zin zm_X7_see.2.2.2.2.2 0 = some (.iload_n 1, 1) := by rw [It_X7_see]; rfl
theorem I_X7_see_1 : zin zm_X7_see.2.2.2.2.2 1 = some (.ifCond .lt 26, 3) := by rw [It_X7_see]; rfl
theorem I_X7_see_4 : zin zm_X7_see.2.2.2.2.2 4 = some (.iload_n 1, 1) := by rw [It_X7_see]; rfl
theorem I_X7_see_5 : zin zm_X7_see.2.2.2.2.2 5 = some (.bipush 8, 2) := by rw [It_X7_see]; rfl
theorem I_X7_see_7 : zin zm_X7_see.2.2.2.2.2 7 = some (.if_icmp .ge 20, 3) := by rw [It_X7_see]; rfl
theorem I_X7_see_10 : zin zm_X7_see.2.2.2.2.2 10 = some (.iload_n 2, 1) := by rw [It_X7_see]; rfl
theorem I_X7_see_11 : zin zm_X7_see.2.2.2.2.2 11 = some (.bipush (-4), 2) := by rw [It_X7_see]; rfl
theorem I_X7_see_13 : zin zm_X7_see.2.2.2.2.2 13 = some (.if_icmp .eq 16, 3) := by rw [It_X7_see]; rfl
theorem I_X7_see_16 : zin zm_X7_see.2.2.2.2.2 16 = some (.aload_n 0, 1) := by rw [It_X7_see]; rfl
theorem I_X7_see_17 : zin zm_X7_see.2.2.2.2.2 17 = some (.getfield 19, 3) := by rw [It_X7_see]; rfl
theorem I_X7_see_20 : zin zm_X7_see.2.2.2.2.2 20 = some (.iload_n 2, 1) := by rw [It_X7_see]; rfl
theorem I_X7_see_21 : zin zm_X7_see.2.2.2.2.2 21 = some (.invokevirtual 112, 3) := by rw [It_X7_see]; rfl
theorem I_X7_see_24 : zin zm_X7_see.2.2.2.2.2 24 = some (.ifCond .ne 5, 3) := by rw [It_X7_see]; rfl
theorem I_X7_see_27 : zin zm_X7_see.2.2.2.2.2 27 = some (.iconst (-1), 1) := by rw [It_X7_see]; rfl
theorem I_X7_see_28 : zin zm_X7_see.2.2.2.2.2 28 = some (.ireturn, 1) := by rw [It_X7_see]; rfl
theorem I_X7_see_29 : zin zm_X7_see.2.2.2.2.2 29 = some (.aload_n 0, 1) := by rw [It_X7_see]; rfl
theorem I_X7_see_30 : zin zm_X7_see.2.2.2.2.2 30 = some (.getfield 40, 3) := by rw [It_X7_see]; rfl
theorem I_X7_see_33 : zin zm_X7_see.2.2.2.2.2 33 = some (.getfield 81, 3) := by rw [It_X7_see]; rfl
theorem I_X7_see_36 : zin zm_X7_see.2.2.2.2.2 36 = some (.bipush 6, 2) := by rw [It_X7_see]; rfl
theorem I_X7_see_38 : zin zm_X7_see.2.2.2.2.2 38 = some (.if_icmp .lt 6, 3) := by rw [It_X7_see]; rfl
theorem I_X7_see_41 : zin zm_X7_see.2.2.2.2.2 41 = some (.bipush (-3), 2) := by rw [It_X7_see]; rfl
theorem I_X7_see_43 : zin zm_X7_see.2.2.2.2.2 43 = some (.ireturn, 1) := by rw [It_X7_see]; rfl
theorem I_X7_see_44 : zin zm_X7_see.2.2.2.2.2 44 = some (.aload_n 0, 1) := by rw [It_X7_see]; rfl
theorem I_X7_see_45 : zin zm_X7_see.2.2.2.2.2 45 = some (.getfield 40, 3) := by rw [It_X7_see]; rfl
theorem I_X7_see_48 : zin zm_X7_see.2.2.2.2.2 48 = some (.iload_n 1, 1) := by rw [It_X7_see]; rfl
theorem I_X7_see_49 : zin zm_X7_see.2.2.2.2.2 49 = some (.iload_n 2, 1) := by rw [It_X7_see]; rfl
theorem I_X7_see_50 : zin zm_X7_see.2.2.2.2.2 50 = some (.invokevirtual 240, 3) := by rw [It_X7_see]; rfl
theorem I_X7_see_53 : zin zm_X7_see.2.2.2.2.2 53 = some (.aload_n 0, 1) := by rw [It_X7_see]; rfl
theorem I_X7_see_54 : zin zm_X7_see.2.2.2.2.2 54 = some (.getfield 40, 3) := by rw [It_X7_see]; rfl
theorem I_X7_see_57 : zin zm_X7_see.2.2.2.2.2 57 = some (.getfield 81, 3) := by rw [It_X7_see]; rfl
theorem I_X7_see_60 : zin zm_X7_see.2.2.2.2.2 60 = some (.ireturn, 1) := by rw [It_X7_see]; rfl
theorem I_X8_see_0 : zin zm_X8_see.2.2.2.2.2 0 = some (.iload_n 1, 1) := by rw [It_X8_see]; rfl
theorem I_X8_see_1 : zin zm_X8_see.2.2.2.2.2 1 = some (.i2l, 1) := by rw [It_X8_see]; rfl
theorem I_X8_see_2 : zin zm_X8_see.2.2.2.2.2 2 = some (.lconst 0, 1) := by rw [It_X8_see]; rfl
theorem I_X8_see_3 : zin zm_X8_see.2.2.2.2.2 3 = some (.ldc2_w 230, 3) := by rw [It_X8_see]; rfl
theorem I_X8_see_6 : zin zm_X8_see.2.2.2.2.2 6 = some (.invokestatic 55, 3) := by rw [It_X8_see]; rfl
theorem I_X8_see_9 : zin zm_X8_see.2.2.2.2.2 9 = some (.ifCond .eq 17, 3) := by rw [It_X8_see]; rfl
theorem I_X8_see_12 : zin zm_X8_see.2.2.2.2.2 12 = some (.iload_n 2, 1) := by rw [It_X8_see]; rfl
theorem I_X8_see_13 : zin zm_X8_see.2.2.2.2.2 13 = some (.bipush (-4), 2) := by rw [It_X8_see]; rfl
theorem I_X8_see_15 : zin zm_X8_see.2.2.2.2.2 15 = some (.if_icmp .eq 13, 3) := by rw [It_X8_see]; rfl
theorem I_X8_see_18 : zin zm_X8_see.2.2.2.2.2 18 = some (.aload_n 0, 1) := by rw [It_X8_see]; rfl
theorem I_X8_see_19 : zin zm_X8_see.2.2.2.2.2 19 = some (.iload_n 2, 1) := by rw [It_X8_see]; rfl
theorem I_X8_see_20 : zin zm_X8_see.2.2.2.2.2 20 = some (.invokevirtual 151, 3) := by rw [It_X8_see]; rfl
theorem I_X8_see_23 : zin zm_X8_see.2.2.2.2.2 23 = some (.ifCond .ne 5, 3) := by rw [It_X8_see]; rfl
theorem I_X8_see_26 : zin zm_X8_see.2.2.2.2.2 26 = some (.iconst (-1), 1) := by rw [It_X8_see]; rfl
theorem I_X8_see_27 : zin zm_X8_see.2.2.2.2.2 27 = some (.ireturn, 1) := by rw [It_X8_see]; rfl
theorem I_X8_see_28 : zin zm_X8_see.2.2.2.2.2 28 = some (.aload_n 0, 1) := by rw [It_X8_see]; rfl
theorem I_X8_see_29 : zin zm_X8_see.2.2.2.2.2 29 = some (.getfield 134, 3) := by rw [It_X8_see]; rfl
theorem I_X8_see_32 : zin zm_X8_see.2.2.2.2.2 32 = some (.bipush 6, 2) := by rw [It_X8_see]; rfl
theorem I_X8_see_34 : zin zm_X8_see.2.2.2.2.2 34 = some (.if_icmp .ne 6, 3) := by rw [It_X8_see]; rfl
theorem I_X8_see_37 : zin zm_X8_see.2.2.2.2.2 37 = some (.bipush (-3), 2) := by rw [It_X8_see]; rfl
theorem I_X8_see_39 : zin zm_X8_see.2.2.2.2.2 39 = some (.ireturn, 1) := by rw [It_X8_see]; rfl
theorem I_X8_see_40 : zin zm_X8_see.2.2.2.2.2 40 = some (.aload_n 0, 1) := by rw [It_X8_see]; rfl
theorem I_X8_see_41 : zin zm_X8_see.2.2.2.2.2 41 = some (.getfield 31, 3) := by rw [It_X8_see]; rfl
theorem I_X8_see_44 : zin zm_X8_see.2.2.2.2.2 44 = some (.iconst 2, 1) := by rw [It_X8_see]; rfl
theorem I_X8_see_45 : zin zm_X8_see.2.2.2.2.2 45 = some (.aload_n 0, 1) := by rw [It_X8_see]; rfl
theorem I_X8_see_46 : zin zm_X8_see.2.2.2.2.2 46 = some (.getfield 134, 3) := by rw [It_X8_see]; rfl
theorem I_X8_see_49 : zin zm_X8_see.2.2.2.2.2 49 = some (.imul, 1) := by rw [It_X8_see]; rfl
theorem I_X8_see_50 : zin zm_X8_see.2.2.2.2.2 50 = some (.iload_n 1, 1) := by rw [It_X8_see]; rfl
theorem I_X8_see_51 : zin zm_X8_see.2.2.2.2.2 51 = some (.iastore, 1) := by rw [It_X8_see]; rfl
theorem I_X8_see_52 : zin zm_X8_see.2.2.2.2.2 52 = some (.aload_n 0, 1) := by rw [It_X8_see]; rfl
theorem I_X8_see_53 : zin zm_X8_see.2.2.2.2.2 53 = some (.getfield 31, 3) := by rw [It_X8_see]; rfl
theorem I_X8_see_56 : zin zm_X8_see.2.2.2.2.2 56 = some (.iconst 2, 1) := by rw [It_X8_see]; rfl
theorem I_X8_see_57 : zin zm_X8_see.2.2.2.2.2 57 = some (.aload_n 0, 1) := by rw [It_X8_see]; rfl
theorem I_X8_see_58 : zin zm_X8_see.2.2.2.2.2 58 = some (.getfield 134, 3) := by rw [It_X8_see]; rfl
theorem I_X8_see_61 : zin zm_X8_see.2.2.2.2.2 61 = some (.imul, 1) := by rw [It_X8_see]; rfl
theorem I_X8_see_62 : zin zm_X8_see.2.2.2.2.2 62 = some (.iconst 1, 1) := by rw [It_X8_see]; rfl
theorem I_X8_see_63 : zin zm_X8_see.2.2.2.2.2 63 = some (.iadd, 1) := by rw [It_X8_see]; rfl
theorem I_X8_see_64 : zin zm_X8_see.2.2.2.2.2 64 = some (.iload_n 2, 1) := by rw [It_X8_see]; rfl
theorem I_X8_see_65 : zin zm_X8_see.2.2.2.2.2 65 = some (.iastore, 1) := by rw [It_X8_see]; rfl
theorem I_X8_see_66 : zin zm_X8_see.2.2.2.2.2 66 = some (.aload_n 0, 1) := by rw [It_X8_see]; rfl
theorem I_X8_see_67 : zin zm_X8_see.2.2.2.2.2 67 = some (.dup, 1) := by rw [It_X8_see]; rfl
theorem I_X8_see_68 : zin zm_X8_see.2.2.2.2.2 68 = some (.getfield 134, 3) := by rw [It_X8_see]; rfl
theorem I_X8_see_71 : zin zm_X8_see.2.2.2.2.2 71 = some (.iconst 1, 1) := by rw [It_X8_see]; rfl
theorem I_X8_see_72 : zin zm_X8_see.2.2.2.2.2 72 = some (.iadd, 1) := by rw [It_X8_see]; rfl
theorem I_X8_see_73 : zin zm_X8_see.2.2.2.2.2 73 = some (.putfield 134, 3) := by rw [It_X8_see]; rfl
theorem I_X8_see_76 : zin zm_X8_see.2.2.2.2.2 76 = some (.aload_n 0, 1) := by rw [It_X8_see]; rfl
theorem I_X8_see_77 : zin zm_X8_see.2.2.2.2.2 77 = some (.getfield 134, 3) := by rw [It_X8_see]; rfl
theorem I_X8_see_80 : zin zm_X8_see.2.2.2.2.2 80 = some (.ireturn, 1) := by rw [It_X8_see]; rfl
theorem G_6_9 : zlk zfls 6 9 = some (6, 0, 260) := rfl
theorem G_6_15 : zlk zfls 6 15 = some (6, 1, 261) := rfl
theorem G_6_21 : zlk zfls 6 21 = some (6, 3, 263) := rfl
theorem G_8_31 : zlk zfls 8 31 = some (8, 22, 863) := rfl
theorem K_7_112 : zlk zmls 7 112 = some (0, 3, 1, 515) := rfl
theorem K_7_240 : zlk zmls 7 240 = some (0, 59, 2, 733) := rfl
theorem K_8_151 : zlk zmls 8 151 = some (0, 127, 1, 1016) := rfl
theorem Zm_3 : zms[3]? = some zm_X0_has := rfl
theorem Zm_59 : zms[59]? = some zm_X6_note := rfl
theorem Zm_127 : zms[127]? = some zm_X8_isOne := rfl
theorem LY_41 : zLY[41]? = some (Sum.inl 0, List.replicate 6 none) := rfl
theorem LY_42 : zLY[42]? = some (Sum.inl 0, List.replicate 6 none) := rfl
theorem LY_79 : zLY[79]? = some (Sum.inl 0, List.replicate 12 none) := rfl
theorem J_8_230 : zlk zcJs 8 230 = some (7, 1160) := rfl
theorem cl_X6_note : zm_X6_note.2.2.2.2.1 = 6 := by
  unfold zm_X6_note
  rfl
theorem cn_X6_note : zm_X6_note.2.2.2.2.1 ≠ 12 := by
  rw [cl_X6_note]
  decide
theorem cn2_X6_note : zm_X6_note.2.2.2.2.1 ≠ 2 := by
  rw [cl_X6_note]
  decide
theorem cl_X7_see : zm_X7_see.2.2.2.2.1 = 7 := by
  unfold zm_X7_see
  rfl
theorem cn_X7_see : zm_X7_see.2.2.2.2.1 ≠ 12 := by
  rw [cl_X7_see]
  decide
theorem cn2_X7_see : zm_X7_see.2.2.2.2.1 ≠ 2 := by
  rw [cl_X7_see]
  decide
theorem cl_X8_see : zm_X8_see.2.2.2.2.1 = 8 := by
  unfold zm_X8_see
  rfl
theorem cn_X8_see : zm_X8_see.2.2.2.2.1 ≠ 12 := by
  rw [cl_X8_see]
  decide
theorem cn2_X8_see : zm_X8_see.2.2.2.2.1 ≠ 2 := by
  rw [cl_X8_see]
  decide
theorem t_X6_note {d : Nat} {m : zM} {r : Option Value} {h' : zHp} {x y : Int32} {s : Nat} (hs : m 40 3 = Int32.ofNat s) (hs6 : s < 6) (H : zE none d zm_X6_note 0 [.ref 40, .int x, .int y] [] m r h') : r = none ∧ h' = zhp (zup (zup (zup m 41 s x) 42 s y) 40 3 (Int32.ofNat (s + 1))) := by
  replace H := i_aln (q := 1) H I_X6_note_0 rfl rfl
  replace H := i_gfr (q := 4) H I_X6_note_1 G_6_9 cn_X6_note LY_40 rfl rfl
  replace H := i_aln (q := 5) H I_X6_note_4 rfl rfl
  replace H := i_gfi (q := 8) H I_X6_note_5 G_6_21 cn_X6_note LY_40 rfl rfl
  replace H := i_iln (q := 9) H I_X6_note_8 rfl rfl
  have W := i_iast (q := 10) H I_X6_note_9 LY_41 rfl
  clear H
  obtain ⟨i_9, bi_9, ei_9, H⟩ := W
  replace H := i_aln (q := 11) H I_X6_note_10 rfl rfl
  replace H := i_gfr (q := 14) H I_X6_note_11 G_6_15 cn_X6_note LY_40 rfl rfl
  replace H := i_aln (q := 15) H I_X6_note_14 rfl rfl
  replace H := i_gfi (q := 18) H I_X6_note_15 G_6_21 cn_X6_note LY_40 rfl rfl
  replace H := i_iln (q := 19) H I_X6_note_18 rfl rfl
  have W := i_iast (q := 20) H I_X6_note_19 LY_42 rfl
  clear H
  obtain ⟨i_19, bi_19, ei_19, H⟩ := W
  replace H := i_aln (q := 21) H I_X6_note_20 rfl rfl
  replace H := i_dup (q := 22) H I_X6_note_21 rfl rfl
  replace H := i_gfi (q := 25) H I_X6_note_22 G_6_21 cn_X6_note LY_40 rfl rfl
  replace H := i_icst (x := 1) (q := 26) H I_X6_note_25 (by decide) rfl
  replace H := i_iadd (q := 27) H I_X6_note_26 rfl
  replace H := i_pf (q := 30) H I_X6_note_27 G_6_21 cn_X6_note LY_40 rfl rfl
  obtain ⟨hr, hh⟩ := i_rt H I_X6_note_30
  have i1 : s = i_9 := zofn (hs.symm.trans ei_9) (by omega) (by omega)
  subst i1
  rw [zup_n (by omega)] at ei_19
  have i2 : s = i_19 := zofn (hs.symm.trans ei_19) (by omega) (by omega)
  subst i2
  refine ⟨hr, hh.trans ?_⟩
  rw [zup_n (by omega), zup_n (by omega), hs, zofn_1]
/-- what may be seen: an act, somebody or nobody -/
abbrev zSo (x y c : Int32) : Prop := (¬ x < 0 ∧ x < 8) ∧ (y = -4 ∨ (¬ y < 0 ∧ y < c))
theorem t_X7_see {d : Nat} {m : zM} {r : Option Value} {h' : zHp} {x y : Int32} {s : Nat} (hs : m 40 3 = Int32.ofNat s) (hs6 : s ≤ 6) (H : zE none d zm_X7_see 0 [.ref 0, .int x, .int y] [] m r h') : ∃ m1 v, r = some (.int v) ∧ h' = zhp m1 ∧ ((¬ zSo x y (m 11 2) ∧ v = -1 ∧ m1 = m) ∨ (zSo x y (m 11 2) ∧ s = 6 ∧ v = -3 ∧ m1 = m) ∨ (zSo x y (m 11 2) ∧ s < 6 ∧ v = Int32.ofNat (s + 1) ∧ m1 = zup (zup (zup m 41 s x) 42 s y) 40 3 (Int32.ofNat (s + 1)))) := by
  replace H := i_iln (q := 1) H I_X7_see_0 rfl rfl
  have W := i_if_lt (t := 27) (q := 4) H I_X7_see_1 (by decide) rfl
  clear H
  rcases W with ⟨c_1, H⟩ | ⟨c_1, H⟩
  · skip
    replace H := i_icst (x := (-1)) (q := 28) H I_X7_see_27 (by decide) rfl
    obtain ⟨hr, hh⟩ := i_ir H I_X7_see_28
    exact ⟨_, _, hr, hh, Or.inl ⟨fun w => w.1.1 c_1, rfl, rfl⟩⟩
  · skip
    replace H := i_iln (q := 5) H I_X7_see_4 rfl rfl
    replace H := i_bip (x := 8) (q := 7) H I_X7_see_5 (by decide) rfl
    have W := i_ic_ge (t := 27) (q := 10) H I_X7_see_7 (by decide) rfl
    clear H
    rcases W with ⟨c_7, H⟩ | ⟨c_7, H⟩
    · skip
      replace H := i_icst (x := (-1)) (q := 28) H I_X7_see_27 (by decide) rfl
      obtain ⟨hr, hh⟩ := i_ir H I_X7_see_28
      exact ⟨_, _, hr, hh, Or.inl ⟨fun w => c_7 w.1.2, rfl, rfl⟩⟩
    · skip
      replace H := i_iln (q := 11) H I_X7_see_10 rfl rfl
      replace H := i_bip (x := (-4)) (q := 13) H I_X7_see_11 (by decide) rfl
      have W := i_ic_eq (t := 29) (q := 16) H I_X7_see_13 (by decide) rfl
      clear H
      rcases W with ⟨c_13, H⟩ | ⟨c_13, H⟩
      · skip
        replace H := i_aln (q := 30) H I_X7_see_29 rfl rfl
        replace H := i_gfr (q := 33) H I_X7_see_30 G_7_40 cn_X7_see LY_0 rfl rfl
        replace H := i_gfi (q := 36) H I_X7_see_33 G_7_81 cn_X7_see LY_40 rfl rfl
        replace H := i_bip (x := 6) (q := 38) H I_X7_see_36 (by decide) rfl
        have W := i_ic_lt (t := 44) (q := 41) H I_X7_see_38 (by decide) rfl
        clear H
        rcases W with ⟨c_38, H⟩ | ⟨c_38, H⟩
        · skip
          replace H := i_aln (q := 45) H I_X7_see_44 rfl rfl
          replace H := i_gfr (q := 48) H I_X7_see_45 G_7_40 cn_X7_see LY_0 rfl rfl
          replace H := i_iln (q := 49) H I_X7_see_48 rfl rfl
          replace H := i_iln (q := 50) H I_X7_see_49 rfl rfl
          have W := i_cv2 0 (q := 53) H I_X7_see_50 K_7_240 Zm_59 rfl rfl
          clear H
          obtain ⟨r1, h1, Hc, K1, K2⟩ := W
          have h6 : s < 6 := by
            rw [hs] at c_38
            exact (zofn_lt (i := s) (j := 6) (by omega) (by decide)).mp c_38
          obtain ⟨e1, e2⟩ := t_X6_note hs h6 Hc
          have H := K2 _ e1 e2
          clear e1 e2 Hc K1 K2
          replace H := i_aln (q := 54) H I_X7_see_53 rfl rfl
          replace H := i_gfr (q := 57) H I_X7_see_54 G_7_40 cn_X7_see LY_0 rfl rfl
          replace H := i_gfi (q := 60) H I_X7_see_57 G_7_81 cn_X7_see LY_40 rfl rfl
          obtain ⟨hr, hh⟩ := i_ir H I_X7_see_60
          have hok : zSo x y (m 11 2) := ⟨⟨c_1, c_7⟩, Or.inl c_13⟩
          rw [zup_s] at hr
          exact ⟨_, _, hr, hh, Or.inr (Or.inr ⟨hok, h6, rfl, rfl⟩)⟩
        · skip
          replace H := i_bip (x := (-3)) (q := 43) H I_X7_see_41 (by decide) rfl
          obtain ⟨hr, hh⟩ := i_ir H I_X7_see_43
          have hok : zSo x y (m 11 2) := ⟨⟨c_1, c_7⟩, Or.inl c_13⟩
          rw [hs] at c_38
          have h6 : s = 6 := by
            have := mt (zofn_lt (i := s) (j := 6) (by omega) (by decide)).mpr c_38
            omega
          exact ⟨_, _, hr, hh, Or.inr (Or.inl ⟨hok, h6, rfl, rfl⟩)⟩
      · skip
        replace H := i_aln (q := 17) H I_X7_see_16 rfl rfl
        replace H := i_gfr (q := 20) H I_X7_see_17 G_7_19 cn_X7_see LY_0 rfl rfl
        replace H := i_iln (q := 21) H I_X7_see_20 rfl rfl
        have W := i_cv1 0 (q := 24) H I_X7_see_21 K_7_112 Zm_3 rfl rfl
        clear H
        obtain ⟨r1, h1, Hc, K1, K2⟩ := W
        obtain ⟨e1, e2⟩ := t_X0_has lkk_11 Hc
        have H := K1 _ _ e1 e2
        clear e1 e2 Hc K1 K2
        have W := i_if_ne (t := 29) (q := 27) H I_X7_see_24 (by decide) rfl
        clear H
        rcases W with ⟨c_24, H⟩ | ⟨c_24, H⟩
        · skip
          replace H := i_aln (q := 30) H I_X7_see_29 rfl rfl
          replace H := i_gfr (q := 33) H I_X7_see_30 G_7_40 cn_X7_see LY_0 rfl rfl
          replace H := i_gfi (q := 36) H I_X7_see_33 G_7_81 cn_X7_see LY_40 rfl rfl
          replace H := i_bip (x := 6) (q := 38) H I_X7_see_36 (by decide) rfl
          have W := i_ic_lt (t := 44) (q := 41) H I_X7_see_38 (by decide) rfl
          clear H
          rcases W with ⟨c_38, H⟩ | ⟨c_38, H⟩
          · skip
            replace H := i_aln (q := 45) H I_X7_see_44 rfl rfl
            replace H := i_gfr (q := 48) H I_X7_see_45 G_7_40 cn_X7_see LY_0 rfl rfl
            replace H := i_iln (q := 49) H I_X7_see_48 rfl rfl
            replace H := i_iln (q := 50) H I_X7_see_49 rfl rfl
            have W := i_cv2 0 (q := 53) H I_X7_see_50 K_7_240 Zm_59 rfl rfl
            clear H
            obtain ⟨r1, h1, Hc, K1, K2⟩ := W
            have h6 : s < 6 := by
              rw [hs] at c_38
              exact (zofn_lt (i := s) (j := 6) (by omega) (by decide)).mp c_38
            obtain ⟨e1, e2⟩ := t_X6_note hs h6 Hc
            have H := K2 _ e1 e2
            clear e1 e2 Hc K1 K2
            replace H := i_aln (q := 54) H I_X7_see_53 rfl rfl
            replace H := i_gfr (q := 57) H I_X7_see_54 G_7_40 cn_X7_see LY_0 rfl rfl
            replace H := i_gfi (q := 60) H I_X7_see_57 G_7_81 cn_X7_see LY_40 rfl rfl
            obtain ⟨hr, hh⟩ := i_ir H I_X7_see_60
            have hok : zSo x y (m 11 2) := ⟨⟨c_1, c_7⟩, Or.inr (zif1 c_24)⟩
            rw [zup_s] at hr
            exact ⟨_, _, hr, hh, Or.inr (Or.inr ⟨hok, h6, rfl, rfl⟩)⟩
          · skip
            replace H := i_bip (x := (-3)) (q := 43) H I_X7_see_41 (by decide) rfl
            obtain ⟨hr, hh⟩ := i_ir H I_X7_see_43
            have hok : zSo x y (m 11 2) := ⟨⟨c_1, c_7⟩, Or.inr (zif1 c_24)⟩
            rw [hs] at c_38
            have h6 : s = 6 := by
              have := mt (zofn_lt (i := s) (j := 6) (by omega) (by decide)).mpr c_38
              omega
            exact ⟨_, _, hr, hh, Or.inr (Or.inl ⟨hok, h6, rfl, rfl⟩)⟩
        · skip
          replace H := i_icst (x := (-1)) (q := 28) H I_X7_see_27 (by decide) rfl
          obtain ⟨hr, hh⟩ := i_ir H I_X7_see_28
          have h1 := zif0 c_24
          exact ⟨_, _, hr, hh, Or.inl ⟨fun w => w.2.elim (fun e => c_13 e) (fun e => h1 e), rfl, rfl⟩⟩
theorem zin_07 {x : Int32} : zin64 x.toInt64 0 7 = if ¬ x < 0 ∧ x < 8 then 1 else 0 := by
  rw [zin_bt (lo := 0) (hi := 7) rfl rfl]
  have e1 : (7 : Int32) < x ↔ ¬ x < 8 := by
    rw [Int32.lt_iff_toInt_lt, Int32.lt_iff_toInt_lt]
    have e2 : (7 : Int32).toInt = 7 := rfl
    have e3 : (8 : Int32).toInt = 8 := rfl
    omega
  by_cases h1 : x < 0
  · rw [if_neg (fun w => w.1 h1), if_neg (fun w => w.1 h1)]
  · by_cases h2 : x < 8
    · rw [if_pos ⟨h1, fun w => e1.mp w h2⟩, if_pos ⟨h1, h2⟩]
    · rw [if_neg (fun w => w.2 (e1.mpr h2)), if_neg (fun w => h2 w.2)]
theorem t_X8_see {d : Nat} {m : zM} {r : Option Value} {h' : zHp} {x y : Int32} {s c : Nat} (hc : m 71 2 = Int32.ofNat c) (hc5 : c ≤ 5) (hs : m 71 23 = Int32.ofNat s) (hs6 : s ≤ 6) (H : zE none d zm_X8_see 0 [.ref 71, .int x, .int y] [] m r h') : ∃ m1 v, r = some (.int v) ∧ h' = zhp m1 ∧ ((¬ zSo x y (m 71 2) ∧ v = -1 ∧ m1 = m) ∨ (zSo x y (m 71 2) ∧ s = 6 ∧ v = -3 ∧ m1 = m) ∨ (zSo x y (m 71 2) ∧ s < 6 ∧ v = Int32.ofNat (s + 1) ∧ m1 = zup (zup (zup m 79 (2 * s) x) 79 (2 * s + 1) y) 71 23 (Int32.ofNat (s + 1)))) := by
  replace H := i_iln (q := 1) H I_X8_see_0 rfl rfl
  replace H := i_i2l (q := 2) H I_X8_see_1 rfl
  replace H := i_lcst (x := 0) (q := 3) H I_X8_see_2 (by decide) rfl
  replace H := i_ldc2 (x := 7) (q := 6) H I_X8_see_3 J_8_230 (by decide) rfl
  replace H := i_in (q := 9) H I_X8_see_6 K_8_55 rfl
  have W := i_if_eq (t := 26) (q := 12) H I_X8_see_9 (by decide) rfl
  clear H
  rcases W with ⟨c_9, H⟩ | ⟨c_9, H⟩
  · skip
    replace H := i_icst (x := (-1)) (q := 27) H I_X8_see_26 (by decide) rfl
    obtain ⟨hr, hh⟩ := i_ir H I_X8_see_27
    rw [zin_07] at c_9
    have h1 := zif0 c_9
    exact ⟨_, _, hr, hh, Or.inl ⟨fun w => h1 w.1, rfl, rfl⟩⟩
  · skip
    replace H := i_iln (q := 13) H I_X8_see_12 rfl rfl
    replace H := i_bip (x := (-4)) (q := 15) H I_X8_see_13 (by decide) rfl
    have W := i_ic_eq (t := 28) (q := 18) H I_X8_see_15 (by decide) rfl
    clear H
    rcases W with ⟨c_15, H⟩ | ⟨c_15, H⟩
    · skip
      replace H := i_aln (q := 29) H I_X8_see_28 rfl rfl
      replace H := i_gfi (q := 32) H I_X8_see_29 G_8_134 cn_X8_see LY_71 rfl rfl
      replace H := i_bip (x := 6) (q := 34) H I_X8_see_32 (by decide) rfl
      have W := i_ic_ne (t := 40) (q := 37) H I_X8_see_34 (by decide) rfl
      clear H
      rcases W with ⟨c_34, H⟩ | ⟨c_34, H⟩
      · skip
        replace H := i_aln (q := 41) H I_X8_see_40 rfl rfl
        replace H := i_gfr (q := 44) H I_X8_see_41 G_8_31 cn_X8_see LY_71 rfl rfl
        replace H := i_icst (x := 2) (q := 45) H I_X8_see_44 (by decide) rfl
        replace H := i_aln (q := 46) H I_X8_see_45 rfl rfl
        replace H := i_gfi (q := 49) H I_X8_see_46 G_8_134 cn_X8_see LY_71 rfl rfl
        replace H := i_imul (q := 50) H I_X8_see_49 rfl
        replace H := i_iln (q := 51) H I_X8_see_50 rfl rfl
        have W := i_iast (q := 52) H I_X8_see_51 LY_79 rfl
        clear H
        obtain ⟨i_51, bi_51, ei_51, H⟩ := W
        replace H := i_aln (q := 53) H I_X8_see_52 rfl rfl
        replace H := i_gfr (q := 56) H I_X8_see_53 G_8_31 cn_X8_see LY_71 rfl rfl
        replace H := i_icst (x := 2) (q := 57) H I_X8_see_56 (by decide) rfl
        replace H := i_aln (q := 58) H I_X8_see_57 rfl rfl
        replace H := i_gfi (q := 61) H I_X8_see_58 G_8_134 cn_X8_see LY_71 rfl rfl
        replace H := i_imul (q := 62) H I_X8_see_61 rfl
        replace H := i_icst (x := 1) (q := 63) H I_X8_see_62 (by decide) rfl
        replace H := i_iadd (q := 64) H I_X8_see_63 rfl
        replace H := i_iln (q := 65) H I_X8_see_64 rfl rfl
        have W := i_iast (q := 66) H I_X8_see_65 LY_79 rfl
        clear H
        obtain ⟨i_65, bi_65, ei_65, H⟩ := W
        replace H := i_aln (q := 67) H I_X8_see_66 rfl rfl
        replace H := i_dup (q := 68) H I_X8_see_67 rfl rfl
        replace H := i_gfi (q := 71) H I_X8_see_68 G_8_134 cn_X8_see LY_71 rfl rfl
        replace H := i_icst (x := 1) (q := 72) H I_X8_see_71 (by decide) rfl
        replace H := i_iadd (q := 73) H I_X8_see_72 rfl
        replace H := i_pf (q := 76) H I_X8_see_73 G_8_134 cn_X8_see LY_71 rfl rfl
        replace H := i_aln (q := 77) H I_X8_see_76 rfl rfl
        replace H := i_gfi (q := 80) H I_X8_see_77 G_8_134 cn_X8_see LY_71 rfl rfl
        obtain ⟨hr, hh⟩ := i_ir H I_X8_see_80
        rw [zin_07] at c_9
        have h1 := zif1 c_9
        have hok : zSo x y (m 71 2) := ⟨h1, Or.inl c_15⟩
        rw [hs] at c_34
        have h6 : s < 6 := by
          rcases Nat.lt_or_ge s 6 with w | w
          · exact w
          · exact absurd (show Int32.ofNat s = 6 by rw [show s = 6 by omega]; rfl) c_34
        have z1 : (2 : Int32) * m 71 23 = Int32.ofNat (2 * s) := by rw [hs, Int32.ofNat_mul]; rfl
        rw [z1] at ei_51
        have i1 : 2 * s = i_51 := zofn ei_51 (by omega) (by omega)
        subst i1
        rw [zup_n (by omega), z1, zofn_1] at ei_65
        have i2 : 2 * s + 1 = i_65 := zofn ei_65 (by omega) (by omega)
        subst i2
        rw [zup_s] at hr
        rw [zup_n (by omega), zup_n (by omega), hs, zofn_1] at hr hh
        exact ⟨_, _, hr, hh, Or.inr (Or.inr ⟨hok, h6, rfl, rfl⟩)⟩
      · skip
        replace H := i_bip (x := (-3)) (q := 39) H I_X8_see_37 (by decide) rfl
        obtain ⟨hr, hh⟩ := i_ir H I_X8_see_39
        rw [zin_07] at c_9
        have h1 := zif1 c_9
        have hok : zSo x y (m 71 2) := ⟨h1, Or.inl c_15⟩
        rw [hs] at c_34
        have h6 : s = 6 := zofn (j := 6) c_34 (by omega) (by decide)
        exact ⟨_, _, hr, hh, Or.inr (Or.inl ⟨hok, h6, rfl, rfl⟩)⟩
    · skip
      replace H := i_aln (q := 19) H I_X8_see_18 rfl rfl
      replace H := i_iln (q := 20) H I_X8_see_19 rfl rfl
      have W := i_cv1 0 (q := 23) H I_X8_see_20 K_8_151 Zm_127 rfl rfl
      clear H
      obtain ⟨r1, h1, Hc, K1, K2⟩ := W
      obtain ⟨e1, e2⟩ := t_X8_isOne hc hc5 Hc
      have H := K1 _ _ e1 e2
      clear e1 e2 Hc K1 K2
      have W := i_if_ne (t := 28) (q := 26) H I_X8_see_23 (by decide) rfl
      clear H
      rcases W with ⟨c_23, H⟩ | ⟨c_23, H⟩
      · skip
        replace H := i_aln (q := 29) H I_X8_see_28 rfl rfl
        replace H := i_gfi (q := 32) H I_X8_see_29 G_8_134 cn_X8_see LY_71 rfl rfl
        replace H := i_bip (x := 6) (q := 34) H I_X8_see_32 (by decide) rfl
        have W := i_ic_ne (t := 40) (q := 37) H I_X8_see_34 (by decide) rfl
        clear H
        rcases W with ⟨c_34, H⟩ | ⟨c_34, H⟩
        · skip
          replace H := i_aln (q := 41) H I_X8_see_40 rfl rfl
          replace H := i_gfr (q := 44) H I_X8_see_41 G_8_31 cn_X8_see LY_71 rfl rfl
          replace H := i_icst (x := 2) (q := 45) H I_X8_see_44 (by decide) rfl
          replace H := i_aln (q := 46) H I_X8_see_45 rfl rfl
          replace H := i_gfi (q := 49) H I_X8_see_46 G_8_134 cn_X8_see LY_71 rfl rfl
          replace H := i_imul (q := 50) H I_X8_see_49 rfl
          replace H := i_iln (q := 51) H I_X8_see_50 rfl rfl
          have W := i_iast (q := 52) H I_X8_see_51 LY_79 rfl
          clear H
          obtain ⟨i_51, bi_51, ei_51, H⟩ := W
          replace H := i_aln (q := 53) H I_X8_see_52 rfl rfl
          replace H := i_gfr (q := 56) H I_X8_see_53 G_8_31 cn_X8_see LY_71 rfl rfl
          replace H := i_icst (x := 2) (q := 57) H I_X8_see_56 (by decide) rfl
          replace H := i_aln (q := 58) H I_X8_see_57 rfl rfl
          replace H := i_gfi (q := 61) H I_X8_see_58 G_8_134 cn_X8_see LY_71 rfl rfl
          replace H := i_imul (q := 62) H I_X8_see_61 rfl
          replace H := i_icst (x := 1) (q := 63) H I_X8_see_62 (by decide) rfl
          replace H := i_iadd (q := 64) H I_X8_see_63 rfl
          replace H := i_iln (q := 65) H I_X8_see_64 rfl rfl
          have W := i_iast (q := 66) H I_X8_see_65 LY_79 rfl
          clear H
          obtain ⟨i_65, bi_65, ei_65, H⟩ := W
          replace H := i_aln (q := 67) H I_X8_see_66 rfl rfl
          replace H := i_dup (q := 68) H I_X8_see_67 rfl rfl
          replace H := i_gfi (q := 71) H I_X8_see_68 G_8_134 cn_X8_see LY_71 rfl rfl
          replace H := i_icst (x := 1) (q := 72) H I_X8_see_71 (by decide) rfl
          replace H := i_iadd (q := 73) H I_X8_see_72 rfl
          replace H := i_pf (q := 76) H I_X8_see_73 G_8_134 cn_X8_see LY_71 rfl rfl
          replace H := i_aln (q := 77) H I_X8_see_76 rfl rfl
          replace H := i_gfi (q := 80) H I_X8_see_77 G_8_134 cn_X8_see LY_71 rfl rfl
          obtain ⟨hr, hh⟩ := i_ir H I_X8_see_80
          rw [zin_07] at c_9
          have h1 := zif1 c_9
          have hok : zSo x y (m 71 2) := ⟨h1, Or.inr (zif1 c_23)⟩
          rw [hs] at c_34
          have h6 : s < 6 := by
            rcases Nat.lt_or_ge s 6 with w | w
            · exact w
            · exact absurd (show Int32.ofNat s = 6 by rw [show s = 6 by omega]; rfl) c_34
          have z1 : (2 : Int32) * m 71 23 = Int32.ofNat (2 * s) := by rw [hs, Int32.ofNat_mul]; rfl
          rw [z1] at ei_51
          have i1 : 2 * s = i_51 := zofn ei_51 (by omega) (by omega)
          subst i1
          rw [zup_n (by omega), z1, zofn_1] at ei_65
          have i2 : 2 * s + 1 = i_65 := zofn ei_65 (by omega) (by omega)
          subst i2
          rw [zup_s] at hr
          rw [zup_n (by omega), zup_n (by omega), hs, zofn_1] at hr hh
          exact ⟨_, _, hr, hh, Or.inr (Or.inr ⟨hok, h6, rfl, rfl⟩)⟩
        · skip
          replace H := i_bip (x := (-3)) (q := 39) H I_X8_see_37 (by decide) rfl
          obtain ⟨hr, hh⟩ := i_ir H I_X8_see_39
          rw [zin_07] at c_9
          have h1 := zif1 c_9
          have hok : zSo x y (m 71 2) := ⟨h1, Or.inr (zif1 c_23)⟩
          rw [hs] at c_34
          have h6 : s = 6 := zofn (j := 6) c_34 (by omega) (by decide)
          exact ⟨_, _, hr, hh, Or.inr (Or.inl ⟨hok, h6, rfl, rfl⟩)⟩
      · skip
        replace H := i_icst (x := (-1)) (q := 27) H I_X8_see_26 (by decide) rfl
        obtain ⟨hr, hh⟩ := i_ir H I_X8_see_27
        rw [zin_07] at c_9
        have h1 := zif1 c_9
        have h2 := zif0 c_23
        exact ⟨_, _, hr, hh, Or.inl ⟨fun w => w.2.elim (fun e => c_15 e) (fun e => h2 e), rfl, rfl⟩⟩
end
section
/-! which places a relation speaks of; the tape -/

/-! which places a relation speaks of -/
def zplb (k i : Nat) : Bool := match zLY[k]? with
  | some c => (match c.2[i]? with
    | some none => true
    | _ => false)
  | none => false
theorem zplb_ok {k i : Nat} (h : zplb k i = true) : zpl1 k i := by
  unfold zplb at h
  split at h
  · rename_i c hc
    split at h
    · rename_i hi
      exact ⟨c, hc, hi⟩
    · cases h
  · cases h
def zqp (q : Nat → Nat → Bool) : Bool := (List.range 86).all (fun k => (List.range 170).all (fun i => !(q k i) || zplb k i))
def zqm (q : Nat → Nat → Bool) (md : yMd) : Bool := md.all (fun e => (List.range' e.2.1 (e.2.2 + 1 - e.2.1)).all (fun i => Nat.ble 170 i || !(q e.1 i)))
theorem zqm_ok {q : Nat → Nat → Bool} {k i : Nat} (hi : i < 170) (hq : q k i = true) : ∀ {md : yMd}, zqm q md = true → ymd md k i = false
  | [], _ => rfl
  | (a, b, c) :: r, h => by
    simp only [zqm, List.all_cons, Bool.and_eq_true] at h
    simp only [ymd]
    have h2 : (Nat.beq a k && Nat.ble b i && Nat.ble i c) = false := by
      cases hb : Nat.beq a k with
      | false => rfl
      | true =>
        have e := Nat.eq_of_beq_eq_true hb
        subst e
        cases h4 : (Nat.ble b i && Nat.ble i c) with
        | false => rw [Bool.true_and]; exact h4
        | true =>
          rw [Bool.and_eq_true, Nat.ble_eq, Nat.ble_eq] at h4
          have h1 := List.all_eq_true.mp h.1 i (List.mem_range'_1.mpr ⟨h4.1, by omega⟩)
          have h5 : (Nat.ble 170 i || !(q a i)) = true := h1
          rw [hq, Bool.not_true, Bool.or_false, Nat.ble_eq] at h5
          exact absurd h5 (by omega)
    rw [h2]
    exact zqm_ok hi hq h.2
/-- nothing that q speaks of has changed -/
def zqe (q : Nat → Nat → Bool) (m m1 : zM) : Prop := ∀ k i, Nat.blt k 86 = true → Nat.blt i 170 = true → q k i = true → m1 k i = m k i
theorem zq_f {q : Nat → Nat → Bool} {md : yMd} {m m1 : zM} (hp : zqp q = true) (hm : zqm q md = true) (hf : zfm md m m1) : zqe q m m1 := by
  intro k i hk hi hq
  rw [Nat.blt_eq] at hk hi
  have h1 := List.all_eq_true.mp (List.all_eq_true.mp hp k (List.mem_range.mpr hk)) i (List.mem_range.mpr hi)
  rw [hq] at h1
  exact hf k i (zplb_ok (by simpa using h1)) (zqm_ok hi hq hm)
theorem zqe_t {q : Nat → Nat → Bool} {m m1 m2 : zM} (h1 : zqe q m m1) (h2 : zqe q m1 m2) : zqe q m m2 := fun k i a b c => (h2 k i a b c).trans (h1 k i a b c)
/-- the tape's places -/
def qT (k i : Nat) : Bool := (Nat.beq k 1 && Nat.beq i 2) || (Nat.beq k 71 && Nat.beq i 8) || (Nat.beq k 2 && Nat.blt i 160) || (Nat.beq k 75 && Nat.blt i 160)
theorem q_2 : ∀ i, i < 160 → qT 2 i = true ∧ qT 75 i = true := by decide
theorem RT_e {m m1 : zM} {n : Nat} (h : RT m n) (he : zqe qT m m1) : RT m1 n := by
  obtain ⟨a1, a2, a3, a4⟩ := h
  refine ⟨(he 1 2 rfl rfl rfl).trans a1, (he 71 8 rfl rfl rfl).trans a2, a3, fun i hi => ?_⟩
  have hb : Nat.blt i 170 = true := by rw [Nat.blt_eq]; omega
  rw [he 2 i rfl hb (q_2 i (by omega)).1, he 75 i rfl hb (q_2 i (by omega)).2]
  exact a4 i hi
theorem zk2 {k : Nat} (h : k < 2) : k = 0 ∨ k = 1 := by omega
theorem zq_x {q q2 : Nat → Nat → Bool} {md : yMd} {m m1 : zM} (hq : ∀ k i, q2 k i = true → q k i = true) (hp : zqp q = true) (hm : zqm q2 md = true) (hf : zfm md m m1) : zqe q2 m m1 := by
  intro k i hk hi hx
  rw [Nat.blt_eq] at hk hi
  have h1 := List.all_eq_true.mp (List.all_eq_true.mp hp k (List.mem_range.mpr hk)) i (List.mem_range.mpr hi)
  rw [hq k i hx] at h1
  exact hf k i (zplb_ok (by simpa using h1)) (zqm_ok hi hx hm)
theorem rt_feed {m : zM} {r : Option Value} {h' : zHp} {n : Nat} {x0 : Int32} (ht : zTy m) (hR : RT m n) (H : zEv none 19 zm_X7_feed (0, lv_args 0 [.ref 0, .int x0], [], zhp m) r h') : ∃ m1 v, r = some (.int v) ∧ h' = zhp m1 ∧ zTy m1 ∧ zfm qs0.2.2.1 m m1 ∧ ∀ r2 h2, zEv none 19 zm_X8_feed (0, lv_args 0 [.ref 71, .int x0], [], zhp m1) r2 h2 → ∃ m2 v2, r2 = some (.int v2) ∧ h2 = zhp m2 ∧ zTy m2 ∧ zfm qs110.2.2.1 m1 m2 ∧ ∃ n, RT m2 n := by
  obtain ⟨a1, a2, a3, a4⟩ := hR
  obtain ⟨m1, ⟨v, b1⟩, b2, b3⟩ := t_X7_feed a1 a3 (zE_of 0 rfl H)
  obtain ⟨q1, q2, q3, q4, q5, q6⟩ := e_X7_feed ht H
  obtain ⟨t1, f1⟩ := eng_m b2 q4 q5 q6
  refine ⟨m1, v, b1, b2, t1, f1, fun r2 h2 H2 => ?_⟩
  have a2' : m1 71 8 = Int32.ofNat n := (f1 71 8 ⟨_, LY_71, rfl⟩ (by decide +kernel)).trans a2
  obtain ⟨m2, ⟨v2, c1⟩, c2, c3⟩ := t_X8_feed a2' a3 (zE_of 0 rfl H2)
  obtain ⟨s1, s2, s3, s4, s5, s6⟩ := e_X8_feed t1 H2
  obtain ⟨t2, f2⟩ := eng_m c2 s4 s5 s6
  refine ⟨m2, v2, c1, c2, t2, f2, ?_⟩
  rcases b3 with ⟨o1, rfl⟩ | ⟨o1, rfl⟩
  · rcases c3 with ⟨_, rfl⟩ | ⟨o2, _⟩
    · exact ⟨n, a1, a2, a3, a4⟩
    · exact absurd o2 o1
  · rcases c3 with ⟨o2, _⟩ | ⟨_, rfl⟩
    · exact absurd o1 o2
    · refine ⟨n + 1, ?_, ?_, by have := o1.2.2; omega, fun i hi => ?_⟩
      · rw [zup_n (by omega), zup_n (by omega), zup_s]
      · rw [zup_s]
      · by_cases hin : i = n
        · subst hin
          rw [zup_n (by omega), zup_n (by omega), zup_n (by omega), zup_s, zup_n (by omega), zup_s]
        · rw [zup_n (by omega), zup_n (by omega), zup_n (by omega), zup_n (by omega), zup_n (by omega), zup_n (by omega), zup_n (by omega), zup_n (by omega)]
          exact a4 i (by omega)
theorem rt_end {m : zM} {r : Option Value} {h' : zHp} {n : Nat} {x0 : Int32} (ht : zTy m) (hR : RT m n) (H : zEv none 19 zm_X7_end (0, lv_args 0 [.ref 0, .int x0], [], zhp m) r h') : ∃ m1 v, r = some (.int v) ∧ h' = zhp m1 ∧ zTy m1 ∧ zfm qs1.2.2.1 m m1 ∧ ∀ r2 h2, zEv none 19 zm_X8_end (0, lv_args 0 [.ref 71, .int x0], [], zhp m1) r2 h2 → ∃ m2 v2, r2 = some (.int v2) ∧ h2 = zhp m2 ∧ zTy m2 ∧ zfm qs111.2.2.1 m1 m2 ∧ ∃ n, RT m2 n := by
  obtain ⟨a1, a2, a3, a4⟩ := hR
  obtain ⟨m1, ⟨v, b1⟩, b2, b3⟩ := t_X7_end a1 a3 (zE_of 1 rfl H)
  obtain ⟨q1, q2, q3, q4, q5, q6⟩ := e_X7_end ht H
  obtain ⟨t1, f1⟩ := eng_m b2 q4 q5 q6
  refine ⟨m1, v, b1, b2, t1, f1, fun r2 h2 H2 => ?_⟩
  have a2' : m1 71 8 = Int32.ofNat n := (f1 71 8 ⟨_, LY_71, rfl⟩ (by decide +kernel)).trans a2
  obtain ⟨m2, ⟨v2, c1⟩, c2, c3⟩ := t_X8_end a2' a3 (zE_of 1 rfl H2)
  obtain ⟨s1, s2, s3, s4, s5, s6⟩ := e_X8_end t1 H2
  obtain ⟨t2, f2⟩ := eng_m c2 s4 s5 s6
  refine ⟨m2, v2, c1, c2, t2, f2, ?_⟩
  rcases b3 with ⟨o1, rfl⟩ | ⟨o1, rfl⟩
  · rcases c3 with ⟨_, rfl⟩ | ⟨o2, _⟩
    · exact ⟨n, a1, a2, a3, a4⟩
    · exact absurd o2 o1
  · rcases c3 with ⟨o2, _⟩ | ⟨_, rfl⟩
    · exact absurd o1 o2
    · obtain ⟨k, k1, rfl⟩ := zEo_n o1 a3
      refine ⟨k, ?_, ?_, by omega, fun i hi => ?_⟩
      · rw [zup_n (by omega), zup_s]
      · rw [zup_s]
      · rw [zup_n (by omega), zup_n (by omega), zup_n (by omega), zup_n (by omega)]
        exact a4 i (by omega)
end
