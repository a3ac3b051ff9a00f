section
/-! clean, trade -/
theorem It_X0_swapTurned : zm_X0_swapTurned.2.2.2.2.2 = zt_X0_swapTurned := by
  unfold zm_X0_swapTurned
  rfl
theorem It_X7_clean : zm_X7_clean.2.2.2.2.2 = zt_X7_clean := by
  unfold zm_X7_clean
  rfl
theorem It_X7_rehearseWith : zm_X7_rehearseWith.2.2.2.2.2 = zt_X7_rehearseWith := by
  unfold zm_X7_rehearseWith
  rfl
theorem It_X7_trade : zm_X7_trade.2.2.2.2.2 = zt_X7_trade := by
  unfold zm_X7_trade
  rfl
theorem It_X8_clean : zm_X8_clean.2.2.2.2.2 = zt_X8_clean := by
  unfold zm_X8_clean
  rfl
theorem It_X8_trade : zm_X8_trade.2.2.2.2.2 = zt_X8_trade := by
  unfold zm_X8_trade
  rfl
theorem I_X0_swapTurned_0 : zin zm_X0_swapTurned.2.2.2.2.2 0 = some (.aload_n 0, 1) := by rw [It_X0_swapTurned]; rfl
theorem I_X0_swapTurned_1 : zin zm_X0_swapTurned.2.2.2.2.2 1 = some (.getfield 11, 3) := by rw [It_X0_swapTurned]; rfl
theorem I_X0_swapTurned_4 : zin zm_X0_swapTurned.2.2.2.2.2 4 = some (.iload_n 1, 1) := by rw [It_X0_swapTurned]; rfl
theorem I_X0_swapTurned_5 : zin zm_X0_swapTurned.2.2.2.2.2 5 = some (.aaload, 1) := by rw [It_X0_swapTurned]; rfl
theorem I_X0_swapTurned_6 : zin zm_X0_swapTurned.2.2.2.2.2 6 = some (.invokevirtual 51, 3) := by rw [It_X0_swapTurned]; rfl
theorem I_X0_swapTurned_9 : zin zm_X0_swapTurned.2.2.2.2.2 9 = some (.istore_n 3, 1) := by rw [It_X0_swapTurned]; rfl
theorem I_X0_swapTurned_10 : zin zm_X0_swapTurned.2.2.2.2.2 10 = some (.aload_n 0, 1) := by rw [It_X0_swapTurned]; rfl
theorem I_X0_swapTurned_11 : zin zm_X0_swapTurned.2.2.2.2.2 11 = some (.getfield 11, 3) := by rw [It_X0_swapTurned]; rfl
theorem I_X0_swapTurned_14 : zin zm_X0_swapTurned.2.2.2.2.2 14 = some (.iload_n 1, 1) := by rw [It_X0_swapTurned]; rfl
theorem I_X0_swapTurned_15 : zin zm_X0_swapTurned.2.2.2.2.2 15 = some (.aaload, 1) := by rw [It_X0_swapTurned]; rfl
theorem I_X0_swapTurned_16 : zin zm_X0_swapTurned.2.2.2.2.2 16 = some (.aload_n 0, 1) := by rw [It_X0_swapTurned]; rfl
theorem I_X0_swapTurned_17 : zin zm_X0_swapTurned.2.2.2.2.2 17 = some (.getfield 11, 3) := by rw [It_X0_swapTurned]; rfl
theorem I_X0_swapTurned_20 : zin zm_X0_swapTurned.2.2.2.2.2 20 = some (.iload_n 2, 1) := by rw [It_X0_swapTurned]; rfl
theorem I_X0_swapTurned_21 : zin zm_X0_swapTurned.2.2.2.2.2 21 = some (.aaload, 1) := by rw [It_X0_swapTurned]; rfl
theorem I_X0_swapTurned_22 : zin zm_X0_swapTurned.2.2.2.2.2 22 = some (.invokevirtual 51, 3) := by rw [It_X0_swapTurned]; rfl
theorem I_X0_swapTurned_25 : zin zm_X0_swapTurned.2.2.2.2.2 25 = some (.invokevirtual 55, 3) := by rw [It_X0_swapTurned]; rfl
theorem I_X0_swapTurned_28 : zin zm_X0_swapTurned.2.2.2.2.2 28 = some (.aload_n 0, 1) := by rw [It_X0_swapTurned]; rfl
theorem I_X0_swapTurned_29 : zin zm_X0_swapTurned.2.2.2.2.2 29 = some (.getfield 11, 3) := by rw [It_X0_swapTurned]; rfl
theorem I_X0_swapTurned_32 : zin zm_X0_swapTurned.2.2.2.2.2 32 = some (.iload_n 2, 1) := by rw [It_X0_swapTurned]; rfl
theorem I_X0_swapTurned_33 : zin zm_X0_swapTurned.2.2.2.2.2 33 = some (.aaload, 1) := by rw [It_X0_swapTurned]; rfl
theorem I_X0_swapTurned_34 : zin zm_X0_swapTurned.2.2.2.2.2 34 = some (.iload_n 3, 1) := by rw [It_X0_swapTurned]; rfl
theorem I_X0_swapTurned_35 : zin zm_X0_swapTurned.2.2.2.2.2 35 = some (.invokevirtual 55, 3) := by rw [It_X0_swapTurned]; rfl
theorem I_X0_swapTurned_38 : zin zm_X0_swapTurned.2.2.2.2.2 38 = some (.return_, 1) := by rw [It_X0_swapTurned]; rfl
theorem I_X7_clean_0 : zin zm_X7_clean.2.2.2.2.2 0 = some (.iload_n 1, 1) := by rw [It_X7_clean]; rfl
theorem I_X7_clean_1 : zin zm_X7_clean.2.2.2.2.2 1 = some (.ifCond .lt 8, 3) := by rw [It_X7_clean]; rfl
theorem I_X7_clean_4 : zin zm_X7_clean.2.2.2.2.2 4 = some (.iload_n 1, 1) := by rw [It_X7_clean]; rfl
theorem I_X7_clean_5 : zin zm_X7_clean.2.2.2.2.2 5 = some (.iconst 1, 1) := by rw [It_X7_clean]; rfl
theorem I_X7_clean_6 : zin zm_X7_clean.2.2.2.2.2 6 = some (.if_icmp .le 5, 3) := by rw [It_X7_clean]; rfl
theorem I_X7_clean_9 : zin zm_X7_clean.2.2.2.2.2 9 = some (.iconst (-1), 1) := by rw [It_X7_clean]; rfl
theorem I_X7_clean_10 : zin zm_X7_clean.2.2.2.2.2 10 = some (.ireturn, 1) := by rw [It_X7_clean]; rfl
theorem I_X7_clean_11 : zin zm_X7_clean.2.2.2.2.2 11 = some (.bipush (-4), 2) := by rw [It_X7_clean]; rfl
theorem I_X7_clean_13 : zin zm_X7_clean.2.2.2.2.2 13 = some (.istore_n 2, 1) := by rw [It_X7_clean]; rfl
theorem I_X7_clean_14 : zin zm_X7_clean.2.2.2.2.2 14 = some (.aload_n 0, 1) := by rw [It_X7_clean]; rfl
theorem I_X7_clean_15 : zin zm_X7_clean.2.2.2.2.2 15 = some (.invokevirtual 161, 3) := by rw [It_X7_clean]; rfl
theorem I_X7_clean_18 : zin zm_X7_clean.2.2.2.2.2 18 = some (.istore_n 3, 1) := by rw [It_X7_clean]; rfl
theorem I_X7_clean_19 : zin zm_X7_clean.2.2.2.2.2 19 = some (.iconst 0, 1) := by rw [It_X7_clean]; rfl
theorem I_X7_clean_20 : zin zm_X7_clean.2.2.2.2.2 20 = some (.istore 4, 2) := by rw [It_X7_clean]; rfl
theorem I_X7_clean_22 : zin zm_X7_clean.2.2.2.2.2 22 = some (.iload 4, 2) := by rw [It_X7_clean]; rfl
theorem I_X7_clean_24 : zin zm_X7_clean.2.2.2.2.2 24 = some (.aload_n 0, 1) := by rw [It_X7_clean]; rfl
theorem I_X7_clean_25 : zin zm_X7_clean.2.2.2.2.2 25 = some (.getfield 19, 3) := by rw [It_X7_clean]; rfl
theorem I_X7_clean_28 : zin zm_X7_clean.2.2.2.2.2 28 = some (.getfield 90, 3) := by rw [It_X7_clean]; rfl
theorem I_X7_clean_31 : zin zm_X7_clean.2.2.2.2.2 31 = some (.if_icmp .ge 30, 3) := by rw [It_X7_clean]; rfl
theorem I_X7_clean_34 : zin zm_X7_clean.2.2.2.2.2 34 = some (.aload_n 0, 1) := by rw [It_X7_clean]; rfl
theorem I_X7_clean_35 : zin zm_X7_clean.2.2.2.2.2 35 = some (.iload 4, 2) := by rw [It_X7_clean]; rfl
theorem I_X7_clean_37 : zin zm_X7_clean.2.2.2.2.2 37 = some (.iconst 0, 1) := by rw [It_X7_clean]; rfl
theorem I_X7_clean_38 : zin zm_X7_clean.2.2.2.2.2 38 = some (.invokevirtual 204, 3) := by rw [It_X7_clean]; rfl
theorem I_X7_clean_41 : zin zm_X7_clean.2.2.2.2.2 41 = some (.istore 5, 2) := by rw [It_X7_clean]; rfl
theorem I_X7_clean_43 : zin zm_X7_clean.2.2.2.2.2 43 = some (.iload 5, 2) := by rw [It_X7_clean]; rfl
theorem I_X7_clean_45 : zin zm_X7_clean.2.2.2.2.2 45 = some (.iload_n 3, 1) := by rw [It_X7_clean]; rfl
theorem I_X7_clean_46 : zin zm_X7_clean.2.2.2.2.2 46 = some (.if_icmp .le 9, 3) := by rw [It_X7_clean]; rfl
theorem I_X7_clean_49 : zin zm_X7_clean.2.2.2.2.2 49 = some (.iload 5, 2) := by rw [It_X7_clean]; rfl
theorem I_X7_clean_51 : zin zm_X7_clean.2.2.2.2.2 51 = some (.istore_n 3, 1) := by rw [It_X7_clean]; rfl
theorem I_X7_clean_52 : zin zm_X7_clean.2.2.2.2.2 52 = some (.iload 4, 2) := by rw [It_X7_clean]; rfl
theorem I_X7_clean_54 : zin zm_X7_clean.2.2.2.2.2 54 = some (.istore_n 2, 1) := by rw [It_X7_clean]; rfl
theorem I_X7_clean_55 : zin zm_X7_clean.2.2.2.2.2 55 = some (.iinc 4 1, 3) := by rw [It_X7_clean]; rfl
theorem I_X7_clean_58 : zin zm_X7_clean.2.2.2.2.2 58 = some (.goto (-36), 3) := by rw [It_X7_clean]; rfl
theorem I_X7_clean_61 : zin zm_X7_clean.2.2.2.2.2 61 = some (.iload_n 1, 1) := by rw [It_X7_clean]; rfl
theorem I_X7_clean_62 : zin zm_X7_clean.2.2.2.2.2 62 = some (.ifCond .eq 9, 3) := by rw [It_X7_clean]; rfl
theorem I_X7_clean_65 : zin zm_X7_clean.2.2.2.2.2 65 = some (.iload_n 2, 1) := by rw [It_X7_clean]; rfl
theorem I_X7_clean_66 : zin zm_X7_clean.2.2.2.2.2 66 = some (.bipush (-4), 2) := by rw [It_X7_clean]; rfl
theorem I_X7_clean_68 : zin zm_X7_clean.2.2.2.2.2 68 = some (.if_icmp .ne 7, 3) := by rw [It_X7_clean]; rfl
theorem I_X7_clean_71 : zin zm_X7_clean.2.2.2.2.2 71 = some (.iload_n 2, 1) := by rw [It_X7_clean]; rfl
theorem I_X7_clean_72 : zin zm_X7_clean.2.2.2.2.2 72 = some (.goto 4, 3) := by rw [It_X7_clean]; rfl
theorem I_X7_clean_75 : zin zm_X7_clean.2.2.2.2.2 75 = some (.iload_n 3, 1) := by rw [It_X7_clean]; rfl
theorem I_X7_clean_76 : zin zm_X7_clean.2.2.2.2.2 76 = some (.ireturn, 1) := by rw [It_X7_clean]; rfl
theorem I_X7_rehearseWith_0 : zin zm_X7_rehearseWith.2.2.2.2.2 0 = some (.aload_n 0, 1) := by rw [It_X7_rehearseWith]; rfl
theorem I_X7_rehearseWith_1 : zin zm_X7_rehearseWith.2.2.2.2.2 1 = some (.getfield 26, 3) := by rw [It_X7_rehearseWith]; rfl
theorem I_X7_rehearseWith_4 : zin zm_X7_rehearseWith.2.2.2.2.2 4 = some (.getfield 173, 3) := by rw [It_X7_rehearseWith]; rfl
theorem I_X7_rehearseWith_7 : zin zm_X7_rehearseWith.2.2.2.2.2 7 = some (.aload_n 0, 1) := by rw [It_X7_rehearseWith]; rfl
theorem I_X7_rehearseWith_8 : zin zm_X7_rehearseWith.2.2.2.2.2 8 = some (.getfield 19, 3) := by rw [It_X7_rehearseWith]; rfl
theorem I_X7_rehearseWith_11 : zin zm_X7_rehearseWith.2.2.2.2.2 11 = some (.invokevirtual 77, 3) := by rw [It_X7_rehearseWith]; rfl
theorem I_X7_rehearseWith_14 : zin zm_X7_rehearseWith.2.2.2.2.2 14 = some (.aload_n 0, 1) := by rw [It_X7_rehearseWith]; rfl
theorem I_X7_rehearseWith_15 : zin zm_X7_rehearseWith.2.2.2.2.2 15 = some (.getfield 26, 3) := by rw [It_X7_rehearseWith]; rfl
theorem I_X7_rehearseWith_18 : zin zm_X7_rehearseWith.2.2.2.2.2 18 = some (.getfield 173, 3) := by rw [It_X7_rehearseWith]; rfl
theorem I_X7_rehearseWith_21 : zin zm_X7_rehearseWith.2.2.2.2.2 21 = some (.getfield 116, 3) := by rw [It_X7_rehearseWith]; rfl
theorem I_X7_rehearseWith_24 : zin zm_X7_rehearseWith.2.2.2.2.2 24 = some (.iload_n 1, 1) := by rw [It_X7_rehearseWith]; rfl
theorem I_X7_rehearseWith_25 : zin zm_X7_rehearseWith.2.2.2.2.2 25 = some (.aaload, 1) := by rw [It_X7_rehearseWith]; rfl
theorem I_X7_rehearseWith_26 : zin zm_X7_rehearseWith.2.2.2.2.2 26 = some (.iload_n 2, 1) := by rw [It_X7_rehearseWith]; rfl
theorem I_X7_rehearseWith_27 : zin zm_X7_rehearseWith.2.2.2.2.2 27 = some (.invokevirtual 207, 3) := by rw [It_X7_rehearseWith]; rfl
theorem I_X7_rehearseWith_30 : zin zm_X7_rehearseWith.2.2.2.2.2 30 = some (.aload_n 0, 1) := by rw [It_X7_rehearseWith]; rfl
theorem I_X7_rehearseWith_31 : zin zm_X7_rehearseWith.2.2.2.2.2 31 = some (.getfield 26, 3) := by rw [It_X7_rehearseWith]; rfl
theorem I_X7_rehearseWith_34 : zin zm_X7_rehearseWith.2.2.2.2.2 34 = some (.bipush 31, 2) := by rw [It_X7_rehearseWith]; rfl
theorem I_X7_rehearseWith_36 : zin zm_X7_rehearseWith.2.2.2.2.2 36 = some (.invokevirtual 179, 3) := by rw [It_X7_rehearseWith]; rfl
theorem I_X7_rehearseWith_39 : zin zm_X7_rehearseWith.2.2.2.2.2 39 = some (.ireturn, 1) := by rw [It_X7_rehearseWith]; rfl
theorem I_X7_trade_0 : zin zm_X7_trade.2.2.2.2.2 0 = some (.iload_n 1, 1) := by rw [It_X7_trade]; rfl
theorem I_X7_trade_1 : zin zm_X7_trade.2.2.2.2.2 1 = some (.ifCond .lt 8, 3) := by rw [It_X7_trade]; rfl
theorem I_X7_trade_4 : zin zm_X7_trade.2.2.2.2.2 4 = some (.iload_n 1, 1) := by rw [It_X7_trade]; rfl
theorem I_X7_trade_5 : zin zm_X7_trade.2.2.2.2.2 5 = some (.iconst 1, 1) := by rw [It_X7_trade]; rfl
theorem I_X7_trade_6 : zin zm_X7_trade.2.2.2.2.2 6 = some (.if_icmp .le 5, 3) := by rw [It_X7_trade]; rfl
theorem I_X7_trade_9 : zin zm_X7_trade.2.2.2.2.2 9 = some (.iconst (-1), 1) := by rw [It_X7_trade]; rfl
theorem I_X7_trade_10 : zin zm_X7_trade.2.2.2.2.2 10 = some (.ireturn, 1) := by rw [It_X7_trade]; rfl
theorem I_X7_trade_11 : zin zm_X7_trade.2.2.2.2.2 11 = some (.bipush (-4), 2) := by rw [It_X7_trade]; rfl
theorem I_X7_trade_13 : zin zm_X7_trade.2.2.2.2.2 13 = some (.istore_n 2, 1) := by rw [It_X7_trade]; rfl
theorem I_X7_trade_14 : zin zm_X7_trade.2.2.2.2.2 14 = some (.aload_n 0, 1) := by rw [It_X7_trade]; rfl
theorem I_X7_trade_15 : zin zm_X7_trade.2.2.2.2.2 15 = some (.invokevirtual 161, 3) := by rw [It_X7_trade]; rfl
theorem I_X7_trade_18 : zin zm_X7_trade.2.2.2.2.2 18 = some (.istore_n 3, 1) := by rw [It_X7_trade]; rfl
theorem I_X7_trade_19 : zin zm_X7_trade.2.2.2.2.2 19 = some (.iconst 0, 1) := by rw [It_X7_trade]; rfl
theorem I_X7_trade_20 : zin zm_X7_trade.2.2.2.2.2 20 = some (.istore 4, 2) := by rw [It_X7_trade]; rfl
theorem I_X7_trade_22 : zin zm_X7_trade.2.2.2.2.2 22 = some (.iload 4, 2) := by rw [It_X7_trade]; rfl
theorem I_X7_trade_24 : zin zm_X7_trade.2.2.2.2.2 24 = some (.aload_n 0, 1) := by rw [It_X7_trade]; rfl
theorem I_X7_trade_25 : zin zm_X7_trade.2.2.2.2.2 25 = some (.getfield 19, 3) := by rw [It_X7_trade]; rfl
theorem I_X7_trade_28 : zin zm_X7_trade.2.2.2.2.2 28 = some (.getfield 90, 3) := by rw [It_X7_trade]; rfl
theorem I_X7_trade_31 : zin zm_X7_trade.2.2.2.2.2 31 = some (.if_icmp .ge 90, 3) := by rw [It_X7_trade]; rfl
theorem I_X7_trade_34 : zin zm_X7_trade.2.2.2.2.2 34 = some (.iload 4, 2) := by rw [It_X7_trade]; rfl
theorem I_X7_trade_36 : zin zm_X7_trade.2.2.2.2.2 36 = some (.iconst 1, 1) := by rw [It_X7_trade]; rfl
theorem I_X7_trade_37 : zin zm_X7_trade.2.2.2.2.2 37 = some (.iadd, 1) := by rw [It_X7_trade]; rfl
theorem I_X7_trade_38 : zin zm_X7_trade.2.2.2.2.2 38 = some (.istore 5, 2) := by rw [It_X7_trade]; rfl
theorem I_X7_trade_40 : zin zm_X7_trade.2.2.2.2.2 40 = some (.iload 5, 2) := by rw [It_X7_trade]; rfl
theorem I_X7_trade_42 : zin zm_X7_trade.2.2.2.2.2 42 = some (.aload_n 0, 1) := by rw [It_X7_trade]; rfl
theorem I_X7_trade_43 : zin zm_X7_trade.2.2.2.2.2 43 = some (.getfield 19, 3) := by rw [It_X7_trade]; rfl
theorem I_X7_trade_46 : zin zm_X7_trade.2.2.2.2.2 46 = some (.getfield 90, 3) := by rw [It_X7_trade]; rfl
theorem I_X7_trade_49 : zin zm_X7_trade.2.2.2.2.2 49 = some (.if_icmp .ge 66, 3) := by rw [It_X7_trade]; rfl
theorem I_X7_trade_52 : zin zm_X7_trade.2.2.2.2.2 52 = some (.aload_n 0, 1) := by rw [It_X7_trade]; rfl
theorem I_X7_trade_53 : zin zm_X7_trade.2.2.2.2.2 53 = some (.getfield 26, 3) := by rw [It_X7_trade]; rfl
theorem I_X7_trade_56 : zin zm_X7_trade.2.2.2.2.2 56 = some (.getfield 173, 3) := by rw [It_X7_trade]; rfl
theorem I_X7_trade_59 : zin zm_X7_trade.2.2.2.2.2 59 = some (.aload_n 0, 1) := by rw [It_X7_trade]; rfl
theorem I_X7_trade_60 : zin zm_X7_trade.2.2.2.2.2 60 = some (.getfield 19, 3) := by rw [It_X7_trade]; rfl
theorem I_X7_trade_63 : zin zm_X7_trade.2.2.2.2.2 63 = some (.invokevirtual 77, 3) := by rw [It_X7_trade]; rfl
theorem I_X7_trade_66 : zin zm_X7_trade.2.2.2.2.2 66 = some (.aload_n 0, 1) := by rw [It_X7_trade]; rfl
theorem I_X7_trade_67 : zin zm_X7_trade.2.2.2.2.2 67 = some (.getfield 26, 3) := by rw [It_X7_trade]; rfl
theorem I_X7_trade_70 : zin zm_X7_trade.2.2.2.2.2 70 = some (.getfield 173, 3) := by rw [It_X7_trade]; rfl
theorem I_X7_trade_73 : zin zm_X7_trade.2.2.2.2.2 73 = some (.iload 4, 2) := by rw [It_X7_trade]; rfl
theorem I_X7_trade_75 : zin zm_X7_trade.2.2.2.2.2 75 = some (.iload 5, 2) := by rw [It_X7_trade]; rfl
theorem I_X7_trade_77 : zin zm_X7_trade.2.2.2.2.2 77 = some (.invokevirtual 210, 3) := by rw [It_X7_trade]; rfl
theorem I_X7_trade_80 : zin zm_X7_trade.2.2.2.2.2 80 = some (.aload_n 0, 1) := by rw [It_X7_trade]; rfl
theorem I_X7_trade_81 : zin zm_X7_trade.2.2.2.2.2 81 = some (.getfield 26, 3) := by rw [It_X7_trade]; rfl
theorem I_X7_trade_84 : zin zm_X7_trade.2.2.2.2.2 84 = some (.bipush 31, 2) := by rw [It_X7_trade]; rfl
theorem I_X7_trade_86 : zin zm_X7_trade.2.2.2.2.2 86 = some (.invokevirtual 179, 3) := by rw [It_X7_trade]; rfl
theorem I_X7_trade_89 : zin zm_X7_trade.2.2.2.2.2 89 = some (.istore 6, 2) := by rw [It_X7_trade]; rfl
theorem I_X7_trade_91 : zin zm_X7_trade.2.2.2.2.2 91 = some (.iload 6, 2) := by rw [It_X7_trade]; rfl
theorem I_X7_trade_93 : zin zm_X7_trade.2.2.2.2.2 93 = some (.iload_n 3, 1) := by rw [It_X7_trade]; rfl
theorem I_X7_trade_94 : zin zm_X7_trade.2.2.2.2.2 94 = some (.if_icmp .le 15, 3) := by rw [It_X7_trade]; rfl
theorem I_X7_trade_97 : zin zm_X7_trade.2.2.2.2.2 97 = some (.iload 6, 2) := by rw [It_X7_trade]; rfl
theorem I_X7_trade_99 : zin zm_X7_trade.2.2.2.2.2 99 = some (.istore_n 3, 1) := by rw [It_X7_trade]; rfl
theorem I_X7_trade_100 : zin zm_X7_trade.2.2.2.2.2 100 = some (.bipush 10, 2) := by rw [It_X7_trade]; rfl
theorem I_X7_trade_102 : zin zm_X7_trade.2.2.2.2.2 102 = some (.iload 4, 2) := by rw [It_X7_trade]; rfl
theorem I_X7_trade_104 : zin zm_X7_trade.2.2.2.2.2 104 = some (.imul, 1) := by rw [It_X7_trade]; rfl
theorem I_X7_trade_105 : zin zm_X7_trade.2.2.2.2.2 105 = some (.iload 5, 2) := by rw [It_X7_trade]; rfl
theorem I_X7_trade_107 : zin zm_X7_trade.2.2.2.2.2 107 = some (.iadd, 1) := by rw [It_X7_trade]; rfl
theorem I_X7_trade_108 : zin zm_X7_trade.2.2.2.2.2 108 = some (.istore_n 2, 1) := by rw [It_X7_trade]; rfl
theorem I_X7_trade_109 : zin zm_X7_trade.2.2.2.2.2 109 = some (.iinc 5 1, 3) := by rw [It_X7_trade]; rfl
theorem I_X7_trade_112 : zin zm_X7_trade.2.2.2.2.2 112 = some (.goto (-72), 3) := by rw [It_X7_trade]; rfl
theorem I_X7_trade_115 : zin zm_X7_trade.2.2.2.2.2 115 = some (.iinc 4 1, 3) := by rw [It_X7_trade]; rfl
theorem I_X7_trade_118 : zin zm_X7_trade.2.2.2.2.2 118 = some (.goto (-96), 3) := by rw [It_X7_trade]; rfl
theorem I_X7_trade_121 : zin zm_X7_trade.2.2.2.2.2 121 = some (.iload_n 1, 1) := by rw [It_X7_trade]; rfl
theorem I_X7_trade_122 : zin zm_X7_trade.2.2.2.2.2 122 = some (.ifCond .eq 9, 3) := by rw [It_X7_trade]; rfl
theorem I_X7_trade_125 : zin zm_X7_trade.2.2.2.2.2 125 = some (.iload_n 2, 1) := by rw [It_X7_trade]; rfl
theorem I_X7_trade_126 : zin zm_X7_trade.2.2.2.2.2 126 = some (.bipush (-4), 2) := by rw [It_X7_trade]; rfl
theorem I_X7_trade_128 : zin zm_X7_trade.2.2.2.2.2 128 = some (.if_icmp .ne 7, 3) := by rw [It_X7_trade]; rfl
theorem I_X7_trade_131 : zin zm_X7_trade.2.2.2.2.2 131 = some (.iload_n 2, 1) := by rw [It_X7_trade]; rfl
theorem I_X7_trade_132 : zin zm_X7_trade.2.2.2.2.2 132 = some (.goto 4, 3) := by rw [It_X7_trade]; rfl
theorem I_X7_trade_135 : zin zm_X7_trade.2.2.2.2.2 135 = some (.iload_n 3, 1) := by rw [It_X7_trade]; rfl
theorem I_X7_trade_136 : zin zm_X7_trade.2.2.2.2.2 136 = some (.ireturn, 1) := by rw [It_X7_trade]; rfl
theorem I_X8_clean_0 : zin zm_X8_clean.2.2.2.2.2 0 = some (.iload_n 1, 1) := by rw [It_X8_clean]; rfl
theorem I_X8_clean_1 : zin zm_X8_clean.2.2.2.2.2 1 = some (.i2l, 1) := by rw [It_X8_clean]; rfl
theorem I_X8_clean_2 : zin zm_X8_clean.2.2.2.2.2 2 = some (.lconst 0, 1) := by rw [It_X8_clean]; rfl
theorem I_X8_clean_3 : zin zm_X8_clean.2.2.2.2.2 3 = some (.lconst 1, 1) := by rw [It_X8_clean]; rfl
theorem I_X8_clean_4 : zin zm_X8_clean.2.2.2.2.2 4 = some (.invokestatic 55, 3) := by rw [It_X8_clean]; rfl
theorem I_X8_clean_7 : zin zm_X8_clean.2.2.2.2.2 7 = some (.ifCond .ne 5, 3) := by rw [It_X8_clean]; rfl
theorem I_X8_clean_10 : zin zm_X8_clean.2.2.2.2.2 10 = some (.iconst (-1), 1) := by rw [It_X8_clean]; rfl
theorem I_X8_clean_11 : zin zm_X8_clean.2.2.2.2.2 11 = some (.ireturn, 1) := by rw [It_X8_clean]; rfl
theorem I_X8_clean_12 : zin zm_X8_clean.2.2.2.2.2 12 = some (.aload_n 0, 1) := by rw [It_X8_clean]; rfl
theorem I_X8_clean_13 : zin zm_X8_clean.2.2.2.2.2 13 = some (.iconst 0, 1) := by rw [It_X8_clean]; rfl
theorem I_X8_clean_14 : zin zm_X8_clean.2.2.2.2.2 14 = some (.invokevirtual 195, 3) := by rw [It_X8_clean]; rfl
theorem I_X8_clean_17 : zin zm_X8_clean.2.2.2.2.2 17 = some (.aload_n 0, 1) := by rw [It_X8_clean]; rfl
theorem I_X8_clean_18 : zin zm_X8_clean.2.2.2.2.2 18 = some (.getfield 179, 3) := by rw [It_X8_clean]; rfl
theorem I_X8_clean_21 : zin zm_X8_clean.2.2.2.2.2 21 = some (.istore_n 2, 1) := by rw [It_X8_clean]; rfl
theorem I_X8_clean_22 : zin zm_X8_clean.2.2.2.2.2 22 = some (.bipush (-4), 2) := by rw [It_X8_clean]; rfl
theorem I_X8_clean_24 : zin zm_X8_clean.2.2.2.2.2 24 = some (.istore_n 3, 1) := by rw [It_X8_clean]; rfl
theorem I_X8_clean_25 : zin zm_X8_clean.2.2.2.2.2 25 = some (.iconst 0, 1) := by rw [It_X8_clean]; rfl
theorem I_X8_clean_26 : zin zm_X8_clean.2.2.2.2.2 26 = some (.istore 4, 2) := by rw [It_X8_clean]; rfl
theorem I_X8_clean_28 : zin zm_X8_clean.2.2.2.2.2 28 = some (.iload 4, 2) := by rw [It_X8_clean]; rfl
theorem I_X8_clean_30 : zin zm_X8_clean.2.2.2.2.2 30 = some (.aload_n 0, 1) := by rw [It_X8_clean]; rfl
theorem I_X8_clean_31 : zin zm_X8_clean.2.2.2.2.2 31 = some (.getfield 131, 3) := by rw [It_X8_clean]; rfl
theorem I_X8_clean_34 : zin zm_X8_clean.2.2.2.2.2 34 = some (.if_icmp .ge 67, 3) := by rw [It_X8_clean]; rfl
theorem I_X8_clean_37 : zin zm_X8_clean.2.2.2.2.2 37 = some (.aload_n 0, 1) := by rw [It_X8_clean]; rfl
theorem I_X8_clean_38 : zin zm_X8_clean.2.2.2.2.2 38 = some (.iconst 0, 1) := by rw [It_X8_clean]; rfl
theorem I_X8_clean_39 : zin zm_X8_clean.2.2.2.2.2 39 = some (.bipush 108, 2) := by rw [It_X8_clean]; rfl
theorem I_X8_clean_41 : zin zm_X8_clean.2.2.2.2.2 41 = some (.invokevirtual 188, 3) := by rw [It_X8_clean]; rfl
theorem I_X8_clean_44 : zin zm_X8_clean.2.2.2.2.2 44 = some (.aload_n 0, 1) := by rw [It_X8_clean]; rfl
theorem I_X8_clean_45 : zin zm_X8_clean.2.2.2.2.2 45 = some (.getfield 7, 3) := by rw [It_X8_clean]; rfl
theorem I_X8_clean_48 : zin zm_X8_clean.2.2.2.2.2 48 = some (.aload_n 0, 1) := by rw [It_X8_clean]; rfl
theorem I_X8_clean_49 : zin zm_X8_clean.2.2.2.2.2 49 = some (.bipush 108, 2) := by rw [It_X8_clean]; rfl
theorem I_X8_clean_51 : zin zm_X8_clean.2.2.2.2.2 51 = some (.iload 4, 2) := by rw [It_X8_clean]; rfl
theorem I_X8_clean_53 : zin zm_X8_clean.2.2.2.2.2 53 = some (.invokevirtual 137, 3) := by rw [It_X8_clean]; rfl
theorem I_X8_clean_56 : zin zm_X8_clean.2.2.2.2.2 56 = some (.iconst 0, 1) := by rw [It_X8_clean]; rfl
theorem I_X8_clean_57 : zin zm_X8_clean.2.2.2.2.2 57 = some (.iastore, 1) := by rw [It_X8_clean]; rfl
theorem I_X8_clean_58 : zin zm_X8_clean.2.2.2.2.2 58 = some (.aload_n 0, 1) := by rw [It_X8_clean]; rfl
theorem I_X8_clean_59 : zin zm_X8_clean.2.2.2.2.2 59 = some (.iconst 0, 1) := by rw [It_X8_clean]; rfl
theorem I_X8_clean_60 : zin zm_X8_clean.2.2.2.2.2 60 = some (.invokevirtual 192, 3) := by rw [It_X8_clean]; rfl
theorem I_X8_clean_63 : zin zm_X8_clean.2.2.2.2.2 63 = some (.aload_n 0, 1) := by rw [It_X8_clean]; rfl
theorem I_X8_clean_64 : zin zm_X8_clean.2.2.2.2.2 64 = some (.getfield 179, 3) := by rw [It_X8_clean]; rfl
theorem I_X8_clean_67 : zin zm_X8_clean.2.2.2.2.2 67 = some (.iload_n 2, 1) := by rw [It_X8_clean]; rfl
theorem I_X8_clean_68 : zin zm_X8_clean.2.2.2.2.2 68 = some (.if_icmp .le 8, 3) := by rw [It_X8_clean]; rfl
theorem I_X8_clean_71 : zin zm_X8_clean.2.2.2.2.2 71 = some (.iload 4, 2) := by rw [It_X8_clean]; rfl
theorem I_X8_clean_73 : zin zm_X8_clean.2.2.2.2.2 73 = some (.goto 4, 3) := by rw [It_X8_clean]; rfl
theorem I_X8_clean_76 : zin zm_X8_clean.2.2.2.2.2 76 = some (.iload_n 3, 1) := by rw [It_X8_clean]; rfl
theorem I_X8_clean_77 : zin zm_X8_clean.2.2.2.2.2 77 = some (.istore_n 3, 1) := by rw [It_X8_clean]; rfl
theorem I_X8_clean_78 : zin zm_X8_clean.2.2.2.2.2 78 = some (.aload_n 0, 1) := by rw [It_X8_clean]; rfl
theorem I_X8_clean_79 : zin zm_X8_clean.2.2.2.2.2 79 = some (.getfield 179, 3) := by rw [It_X8_clean]; rfl
theorem I_X8_clean_82 : zin zm_X8_clean.2.2.2.2.2 82 = some (.iload_n 2, 1) := by rw [It_X8_clean]; rfl
theorem I_X8_clean_83 : zin zm_X8_clean.2.2.2.2.2 83 = some (.if_icmp .le 10, 3) := by rw [It_X8_clean]; rfl
theorem I_X8_clean_86 : zin zm_X8_clean.2.2.2.2.2 86 = some (.aload_n 0, 1) := by rw [It_X8_clean]; rfl
theorem I_X8_clean_87 : zin zm_X8_clean.2.2.2.2.2 87 = some (.getfield 179, 3) := by rw [It_X8_clean]; rfl
theorem I_X8_clean_90 : zin zm_X8_clean.2.2.2.2.2 90 = some (.goto 4, 3) := by rw [It_X8_clean]; rfl
theorem I_X8_clean_93 : zin zm_X8_clean.2.2.2.2.2 93 = some (.iload_n 2, 1) := by rw [It_X8_clean]; rfl
theorem I_X8_clean_94 : zin zm_X8_clean.2.2.2.2.2 94 = some (.istore_n 2, 1) := by rw [It_X8_clean]; rfl
theorem I_X8_clean_95 : zin zm_X8_clean.2.2.2.2.2 95 = some (.iinc 4 1, 3) := by rw [It_X8_clean]; rfl
theorem I_X8_clean_98 : zin zm_X8_clean.2.2.2.2.2 98 = some (.goto (-70), 3) := by rw [It_X8_clean]; rfl
theorem I_X8_clean_101 : zin zm_X8_clean.2.2.2.2.2 101 = some (.iload_n 3, 1) := by rw [It_X8_clean]; rfl
theorem I_X8_clean_102 : zin zm_X8_clean.2.2.2.2.2 102 = some (.bipush (-4), 2) := by rw [It_X8_clean]; rfl
theorem I_X8_clean_104 : zin zm_X8_clean.2.2.2.2.2 104 = some (.if_icmp .eq 7, 3) := by rw [It_X8_clean]; rfl
theorem I_X8_clean_107 : zin zm_X8_clean.2.2.2.2.2 107 = some (.iload_n 1, 1) := by rw [It_X8_clean]; rfl
theorem I_X8_clean_108 : zin zm_X8_clean.2.2.2.2.2 108 = some (.ifCond .ne 7, 3) := by rw [It_X8_clean]; rfl
theorem I_X8_clean_111 : zin zm_X8_clean.2.2.2.2.2 111 = some (.iload_n 3, 1) := by rw [It_X8_clean]; rfl
theorem I_X8_clean_112 : zin zm_X8_clean.2.2.2.2.2 112 = some (.goto 4, 3) := by rw [It_X8_clean]; rfl
theorem I_X8_clean_115 : zin zm_X8_clean.2.2.2.2.2 115 = some (.iload_n 2, 1) := by rw [It_X8_clean]; rfl
theorem I_X8_clean_116 : zin zm_X8_clean.2.2.2.2.2 116 = some (.ireturn, 1) := by rw [It_X8_clean]; rfl
theorem I_X8_trade_0 : zin zm_X8_trade.2.2.2.2.2 0 = some (.iload_n 1, 1) := by rw [It_X8_trade]; rfl
theorem I_X8_trade_1 : zin zm_X8_trade.2.2.2.2.2 1 = some (.i2l, 1) := by rw [It_X8_trade]; rfl
theorem I_X8_trade_2 : zin zm_X8_trade.2.2.2.2.2 2 = some (.lconst 0, 1) := by rw [It_X8_trade]; rfl
theorem I_X8_trade_3 : zin zm_X8_trade.2.2.2.2.2 3 = some (.lconst 1, 1) := by rw [It_X8_trade]; rfl
theorem I_X8_trade_4 : zin zm_X8_trade.2.2.2.2.2 4 = some (.invokestatic 55, 3) := by rw [It_X8_trade]; rfl
theorem I_X8_trade_7 : zin zm_X8_trade.2.2.2.2.2 7 = some (.ifCond .ne 5, 3) := by rw [It_X8_trade]; rfl
theorem I_X8_trade_10 : zin zm_X8_trade.2.2.2.2.2 10 = some (.iconst (-1), 1) := by rw [It_X8_trade]; rfl
theorem I_X8_trade_11 : zin zm_X8_trade.2.2.2.2.2 11 = some (.ireturn, 1) := by rw [It_X8_trade]; rfl
theorem I_X8_trade_12 : zin zm_X8_trade.2.2.2.2.2 12 = some (.aload_n 0, 1) := by rw [It_X8_trade]; rfl
theorem I_X8_trade_13 : zin zm_X8_trade.2.2.2.2.2 13 = some (.iconst 0, 1) := by rw [It_X8_trade]; rfl
theorem I_X8_trade_14 : zin zm_X8_trade.2.2.2.2.2 14 = some (.invokevirtual 195, 3) := by rw [It_X8_trade]; rfl
theorem I_X8_trade_17 : zin zm_X8_trade.2.2.2.2.2 17 = some (.aload_n 0, 1) := by rw [It_X8_trade]; rfl
theorem I_X8_trade_18 : zin zm_X8_trade.2.2.2.2.2 18 = some (.getfield 179, 3) := by rw [It_X8_trade]; rfl
theorem I_X8_trade_21 : zin zm_X8_trade.2.2.2.2.2 21 = some (.istore_n 2, 1) := by rw [It_X8_trade]; rfl
theorem I_X8_trade_22 : zin zm_X8_trade.2.2.2.2.2 22 = some (.bipush (-4), 2) := by rw [It_X8_trade]; rfl
theorem I_X8_trade_24 : zin zm_X8_trade.2.2.2.2.2 24 = some (.istore_n 3, 1) := by rw [It_X8_trade]; rfl
theorem I_X8_trade_25 : zin zm_X8_trade.2.2.2.2.2 25 = some (.iconst 0, 1) := by rw [It_X8_trade]; rfl
theorem I_X8_trade_26 : zin zm_X8_trade.2.2.2.2.2 26 = some (.istore 4, 2) := by rw [It_X8_trade]; rfl
theorem I_X8_trade_28 : zin zm_X8_trade.2.2.2.2.2 28 = some (.iload 4, 2) := by rw [It_X8_trade]; rfl
theorem I_X8_trade_30 : zin zm_X8_trade.2.2.2.2.2 30 = some (.aload_n 0, 1) := by rw [It_X8_trade]; rfl
theorem I_X8_trade_31 : zin zm_X8_trade.2.2.2.2.2 31 = some (.getfield 131, 3) := by rw [It_X8_trade]; rfl
theorem I_X8_trade_34 : zin zm_X8_trade.2.2.2.2.2 34 = some (.if_icmp .ge 120, 3) := by rw [It_X8_trade]; rfl
theorem I_X8_trade_37 : zin zm_X8_trade.2.2.2.2.2 37 = some (.iload 4, 2) := by rw [It_X8_trade]; rfl
theorem I_X8_trade_39 : zin zm_X8_trade.2.2.2.2.2 39 = some (.iconst 1, 1) := by rw [It_X8_trade]; rfl
theorem I_X8_trade_40 : zin zm_X8_trade.2.2.2.2.2 40 = some (.iadd, 1) := by rw [It_X8_trade]; rfl
theorem I_X8_trade_41 : zin zm_X8_trade.2.2.2.2.2 41 = some (.istore 5, 2) := by rw [It_X8_trade]; rfl
theorem I_X8_trade_43 : zin zm_X8_trade.2.2.2.2.2 43 = some (.iload 5, 2) := by rw [It_X8_trade]; rfl
theorem I_X8_trade_45 : zin zm_X8_trade.2.2.2.2.2 45 = some (.aload_n 0, 1) := by rw [It_X8_trade]; rfl
theorem I_X8_trade_46 : zin zm_X8_trade.2.2.2.2.2 46 = some (.getfield 131, 3) := by rw [It_X8_trade]; rfl
theorem I_X8_trade_49 : zin zm_X8_trade.2.2.2.2.2 49 = some (.if_icmp .ge 99, 3) := by rw [It_X8_trade]; rfl
theorem I_X8_trade_52 : zin zm_X8_trade.2.2.2.2.2 52 = some (.aload_n 0, 1) := by rw [It_X8_trade]; rfl
theorem I_X8_trade_53 : zin zm_X8_trade.2.2.2.2.2 53 = some (.iconst 0, 1) := by rw [It_X8_trade]; rfl
theorem I_X8_trade_54 : zin zm_X8_trade.2.2.2.2.2 54 = some (.bipush 108, 2) := by rw [It_X8_trade]; rfl
theorem I_X8_trade_56 : zin zm_X8_trade.2.2.2.2.2 56 = some (.invokevirtual 188, 3) := by rw [It_X8_trade]; rfl
theorem I_X8_trade_59 : zin zm_X8_trade.2.2.2.2.2 59 = some (.aload_n 0, 1) := by rw [It_X8_trade]; rfl
theorem I_X8_trade_60 : zin zm_X8_trade.2.2.2.2.2 60 = some (.getfield 7, 3) := by rw [It_X8_trade]; rfl
theorem I_X8_trade_63 : zin zm_X8_trade.2.2.2.2.2 63 = some (.aload_n 0, 1) := by rw [It_X8_trade]; rfl
theorem I_X8_trade_64 : zin zm_X8_trade.2.2.2.2.2 64 = some (.bipush 108, 2) := by rw [It_X8_trade]; rfl
theorem I_X8_trade_66 : zin zm_X8_trade.2.2.2.2.2 66 = some (.iload 4, 2) := by rw [It_X8_trade]; rfl
theorem I_X8_trade_68 : zin zm_X8_trade.2.2.2.2.2 68 = some (.invokevirtual 137, 3) := by rw [It_X8_trade]; rfl
theorem I_X8_trade_71 : zin zm_X8_trade.2.2.2.2.2 71 = some (.aload_n 0, 1) := by rw [It_X8_trade]; rfl
theorem I_X8_trade_72 : zin zm_X8_trade.2.2.2.2.2 72 = some (.iconst 0, 1) := by rw [It_X8_trade]; rfl
theorem I_X8_trade_73 : zin zm_X8_trade.2.2.2.2.2 73 = some (.iload 5, 2) := by rw [It_X8_trade]; rfl
theorem I_X8_trade_75 : zin zm_X8_trade.2.2.2.2.2 75 = some (.invokevirtual 141, 3) := by rw [It_X8_trade]; rfl
theorem I_X8_trade_78 : zin zm_X8_trade.2.2.2.2.2 78 = some (.iastore, 1) := by rw [It_X8_trade]; rfl
theorem I_X8_trade_79 : zin zm_X8_trade.2.2.2.2.2 79 = some (.aload_n 0, 1) := by rw [It_X8_trade]; rfl
theorem I_X8_trade_80 : zin zm_X8_trade.2.2.2.2.2 80 = some (.getfield 7, 3) := by rw [It_X8_trade]; rfl
theorem I_X8_trade_83 : zin zm_X8_trade.2.2.2.2.2 83 = some (.aload_n 0, 1) := by rw [It_X8_trade]; rfl
theorem I_X8_trade_84 : zin zm_X8_trade.2.2.2.2.2 84 = some (.bipush 108, 2) := by rw [It_X8_trade]; rfl
theorem I_X8_trade_86 : zin zm_X8_trade.2.2.2.2.2 86 = some (.iload 5, 2) := by rw [It_X8_trade]; rfl
theorem I_X8_trade_88 : zin zm_X8_trade.2.2.2.2.2 88 = some (.invokevirtual 137, 3) := by rw [It_X8_trade]; rfl
theorem I_X8_trade_91 : zin zm_X8_trade.2.2.2.2.2 91 = some (.aload_n 0, 1) := by rw [It_X8_trade]; rfl
theorem I_X8_trade_92 : zin zm_X8_trade.2.2.2.2.2 92 = some (.iconst 0, 1) := by rw [It_X8_trade]; rfl
theorem I_X8_trade_93 : zin zm_X8_trade.2.2.2.2.2 93 = some (.iload 4, 2) := by rw [It_X8_trade]; rfl
theorem I_X8_trade_95 : zin zm_X8_trade.2.2.2.2.2 95 = some (.invokevirtual 141, 3) := by rw [It_X8_trade]; rfl
theorem I_X8_trade_98 : zin zm_X8_trade.2.2.2.2.2 98 = some (.iastore, 1) := by rw [It_X8_trade]; rfl
theorem I_X8_trade_99 : zin zm_X8_trade.2.2.2.2.2 99 = some (.aload_n 0, 1) := by rw [It_X8_trade]; rfl
theorem I_X8_trade_100 : zin zm_X8_trade.2.2.2.2.2 100 = some (.iconst 0, 1) := by rw [It_X8_trade]; rfl
theorem I_X8_trade_101 : zin zm_X8_trade.2.2.2.2.2 101 = some (.invokevirtual 192, 3) := by rw [It_X8_trade]; rfl
theorem I_X8_trade_104 : zin zm_X8_trade.2.2.2.2.2 104 = some (.aload_n 0, 1) := by rw [It_X8_trade]; rfl
theorem I_X8_trade_105 : zin zm_X8_trade.2.2.2.2.2 105 = some (.getfield 179, 3) := by rw [It_X8_trade]; rfl
theorem I_X8_trade_108 : zin zm_X8_trade.2.2.2.2.2 108 = some (.iload_n 2, 1) := by rw [It_X8_trade]; rfl
theorem I_X8_trade_109 : zin zm_X8_trade.2.2.2.2.2 109 = some (.if_icmp .le 14, 3) := by rw [It_X8_trade]; rfl
theorem I_X8_trade_112 : zin zm_X8_trade.2.2.2.2.2 112 = some (.bipush 10, 2) := by rw [It_X8_trade]; rfl
theorem I_X8_trade_114 : zin zm_X8_trade.2.2.2.2.2 114 = some (.iload 4, 2) := by rw [It_X8_trade]; rfl
theorem I_X8_trade_116 : zin zm_X8_trade.2.2.2.2.2 116 = some (.imul, 1) := by rw [It_X8_trade]; rfl
theorem I_X8_trade_117 : zin zm_X8_trade.2.2.2.2.2 117 = some (.iload 5, 2) := by rw [It_X8_trade]; rfl
theorem I_X8_trade_119 : zin zm_X8_trade.2.2.2.2.2 119 = some (.iadd, 1) := by rw [It_X8_trade]; rfl
theorem I_X8_trade_120 : zin zm_X8_trade.2.2.2.2.2 120 = some (.goto 4, 3) := by rw [It_X8_trade]; rfl
theorem I_X8_trade_123 : zin zm_X8_trade.2.2.2.2.2 123 = some (.iload_n 3, 1) := by rw [It_X8_trade]; rfl
theorem I_X8_trade_124 : zin zm_X8_trade.2.2.2.2.2 124 = some (.istore_n 3, 1) := by rw [It_X8_trade]; rfl
theorem I_X8_trade_125 : zin zm_X8_trade.2.2.2.2.2 125 = some (.aload_n 0, 1) := by rw [It_X8_trade]; rfl
theorem I_X8_trade_126 : zin zm_X8_trade.2.2.2.2.2 126 = some (.getfield 179, 3) := by rw [It_X8_trade]; rfl
theorem I_X8_trade_129 : zin zm_X8_trade.2.2.2.2.2 129 = some (.iload_n 2, 1) := by rw [It_X8_trade]; rfl
theorem I_X8_trade_130 : zin zm_X8_trade.2.2.2.2.2 130 = some (.if_icmp .le 10, 3) := by rw [It_X8_trade]; rfl
theorem I_X8_trade_133 : zin zm_X8_trade.2.2.2.2.2 133 = some (.aload_n 0, 1) := by rw [It_X8_trade]; rfl
theorem I_X8_trade_134 : zin zm_X8_trade.2.2.2.2.2 134 = some (.getfield 179, 3) := by rw [It_X8_trade]; rfl
theorem I_X8_trade_137 : zin zm_X8_trade.2.2.2.2.2 137 = some (.goto 4, 3) := by rw [It_X8_trade]; rfl
theorem I_X8_trade_140 : zin zm_X8_trade.2.2.2.2.2 140 = some (.iload_n 2, 1) := by rw [It_X8_trade]; rfl
theorem I_X8_trade_141 : zin zm_X8_trade.2.2.2.2.2 141 = some (.istore_n 2, 1) := by rw [It_X8_trade]; rfl
theorem I_X8_trade_142 : zin zm_X8_trade.2.2.2.2.2 142 = some (.iinc 5 1, 3) := by rw [It_X8_trade]; rfl
theorem I_X8_trade_145 : zin zm_X8_trade.2.2.2.2.2 145 = some (.goto (-102), 3) := by rw [It_X8_trade]; rfl
theorem I_X8_trade_148 : zin zm_X8_trade.2.2.2.2.2 148 = some (.iinc 4 1, 3) := by rw [It_X8_trade]; rfl
theorem I_X8_trade_151 : zin zm_X8_trade.2.2.2.2.2 151 = some (.goto (-123), 3) := by rw [It_X8_trade]; rfl
theorem I_X8_trade_154 : zin zm_X8_trade.2.2.2.2.2 154 = some (.iload_n 3, 1) := by rw [It_X8_trade]; rfl
theorem I_X8_trade_155 : zin zm_X8_trade.2.2.2.2.2 155 = some (.bipush (-4), 2) := by rw [It_X8_trade]; rfl
theorem I_X8_trade_157 : zin zm_X8_trade.2.2.2.2.2 157 = some (.if_icmp .eq 7, 3) := by rw [It_X8_trade]; rfl
theorem I_X8_trade_160 : zin zm_X8_trade.2.2.2.2.2 160 = some (.iload_n 1, 1) := by rw [It_X8_trade]; rfl
theorem I_X8_trade_161 : zin zm_X8_trade.2.2.2.2.2 161 = some (.ifCond .ne 7, 3) := by rw [It_X8_trade]; rfl
theorem I_X8_trade_164 : zin zm_X8_trade.2.2.2.2.2 164 = some (.iload_n 3, 1) := by rw [It_X8_trade]; rfl
theorem I_X8_trade_165 : zin zm_X8_trade.2.2.2.2.2 165 = some (.goto 4, 3) := by rw [It_X8_trade]; rfl
theorem I_X8_trade_168 : zin zm_X8_trade.2.2.2.2.2 168 = some (.iload_n 2, 1) := by rw [It_X8_trade]; rfl
theorem I_X8_trade_169 : zin zm_X8_trade.2.2.2.2.2 169 = some (.ireturn, 1) := by rw [It_X8_trade]; rfl
theorem K_0_55 : zlk zmls 0 55 = some (0, 21, 1, 692) := rfl
theorem K_7_204 : zlk zmls 7 204 = some (0, 88, 2, 679) := rfl
theorem K_7_207 : zlk zmls 7 207 = some (0, 21, 1, 683) := rfl
theorem K_7_210 : zlk zmls 7 210 = some (0, 8, 2, 688) := rfl
theorem Zm_8 : zms[8]? = some zm_X0_swapTurned := rfl
theorem Zm_88 : zms[88]? = some zm_X7_rehearseWith := rfl
theorem cl_X0_swapTurned : zm_X0_swapTurned.2.2.2.2.1 = 0 := by
  unfold zm_X0_swapTurned
  rfl
theorem cn_X0_swapTurned : zm_X0_swapTurned.2.2.2.2.1 ≠ 12 := by
  rw [cl_X0_swapTurned]
  decide
theorem cn2_X0_swapTurned : zm_X0_swapTurned.2.2.2.2.1 ≠ 2 := by
  rw [cl_X0_swapTurned]
  decide
theorem cl_X7_clean : zm_X7_clean.2.2.2.2.1 = 7 := by
  unfold zm_X7_clean
  rfl
theorem cn_X7_clean : zm_X7_clean.2.2.2.2.1 ≠ 12 := by
  rw [cl_X7_clean]
  decide
theorem cn2_X7_clean : zm_X7_clean.2.2.2.2.1 ≠ 2 := by
  rw [cl_X7_clean]
  decide
theorem cl_X7_rehearseWith : zm_X7_rehearseWith.2.2.2.2.1 = 7 := by
  unfold zm_X7_rehearseWith
  rfl
theorem cn_X7_rehearseWith : zm_X7_rehearseWith.2.2.2.2.1 ≠ 12 := by
  rw [cl_X7_rehearseWith]
  decide
theorem cn2_X7_rehearseWith : zm_X7_rehearseWith.2.2.2.2.1 ≠ 2 := by
  rw [cl_X7_rehearseWith]
  decide
theorem cl_X7_trade : zm_X7_trade.2.2.2.2.1 = 7 := by
  unfold zm_X7_trade
  rfl
theorem cn_X7_trade : zm_X7_trade.2.2.2.2.1 ≠ 12 := by
  rw [cl_X7_trade]
  decide
theorem cn2_X7_trade : zm_X7_trade.2.2.2.2.1 ≠ 2 := by
  rw [cl_X7_trade]
  decide
theorem cl_X8_clean : zm_X8_clean.2.2.2.2.1 = 8 := by
  unfold zm_X8_clean
  rfl
theorem cn_X8_clean : zm_X8_clean.2.2.2.2.1 ≠ 12 := by
  rw [cl_X8_clean]
  decide
theorem cn2_X8_clean : zm_X8_clean.2.2.2.2.1 ≠ 2 := by
  rw [cl_X8_clean]
  decide
theorem cl_X8_trade : zm_X8_trade.2.2.2.2.1 = 8 := by
  unfold zm_X8_trade
  rfl
theorem cn_X8_trade : zm_X8_trade.2.2.2.2.1 ≠ 12 := by
  rw [cl_X8_trade]
  decide
theorem cn2_X8_trade : zm_X8_trade.2.2.2.2.1 ≠ 2 := by
  rw [cl_X8_trade]
  decide
theorem t_X7_rehearseWith {d : Nat} {m : zM} {r : Option Value} {h' : zHp} {v : Int32} {c p : Nat} {g : Nat → Int32} (hL : LV m 11 c g) (hg : gok g c) (hp : p < c) (hv : 0 ≤ v.toInt ∧ v.toInt ≤ 99) (H : zE none d zm_X7_rehearseWith 0 [.ref 0, .int (Int32.ofNat p), .int v] [] m r h') : ∃ m1, r = some (.int (gPl c (gset g (gat g p) v)).2.1) ∧ h' = zhp m1 ∧ cP m1 c (gPl c (gset g (gat g p) v)) ∧ ∀ a b, ¬ (19 ≤ a ∧ a ≤ 28) → m1 a b = m a b := by
  have hL0 := hL
  obtain ⟨l1, l2, l3, l4, l5, a, l6, l7, l8, l9⟩ := hL
  replace H := i_aln (q := 1) H I_X7_rehearseWith_0 rfl rfl
  replace H := i_gfr (q := 4) H I_X7_rehearseWith_1 G_7_26 cn_X7_rehearseWith LY_0 rfl rfl
  replace H := i_gfr (q := 7) H I_X7_rehearseWith_4 G_7_173 cn_X7_rehearseWith LY_19 rfl rfl
  replace H := i_aln (q := 8) H I_X7_rehearseWith_7 rfl rfl
  replace H := i_gfr (q := 11) H I_X7_rehearseWith_8 G_7_19 cn_X7_rehearseWith LY_0 rfl rfl
  have W := i_cv1 1 (q := 14) H I_X7_rehearseWith_11 K_7_77 Zm_2 rfl rfl
  clear H
  obtain ⟨r1, h1, Hc, K1, K2⟩ := W
  obtain ⟨M_11, e1, e2, F_11⟩ := t_become lkk_20 lkk_11 (by omega) l1 l2 l8 l6 Hc
  have H := K2 _ e1 e2
  clear e1 e2 Hc K1 K2
  replace H := i_aln (q := 15) H I_X7_rehearseWith_14 rfl rfl
  replace H := i_gfr (q := 18) H I_X7_rehearseWith_15 G_7_26 cn_X7_rehearseWith LY_0 rfl rfl
  replace H := i_gfr (q := 21) H I_X7_rehearseWith_18 G_7_173 cn_X7_rehearseWith LY_19 rfl rfl
  replace H := i_gfr (q := 24) H I_X7_rehearseWith_21 G_7_116 cn_X7_rehearseWith LY_20 rfl rfl
  replace H := i_iln (q := 25) H I_X7_rehearseWith_24 rfl rfl
  have W := i_folk (k := 20) lkk_20 (q := 26) H I_X7_rehearseWith_25 rfl
  clear H
  obtain ⟨i_25, bi_25, ei_25, H⟩ := W
  have ei_25 := zofn ei_25 (by omega) (by omega)
  subst ei_25
  replace H := i_iln (q := 27) H I_X7_rehearseWith_26 rfl rfl
  have W := i_cv1 0 (q := 30) H I_X7_rehearseWith_27 K_7_207 Zm_21 rfl rfl
  clear H
  obtain ⟨r1, h1, Hc, K1, K2⟩ := W
  obtain ⟨e1, e2⟩ := t_X1_setTurned (lk_p lkk_20 bi_25) Hc
  have H := K2 _ e1 e2
  clear e1 e2 Hc K1 K2
  replace H := i_aln (q := 31) H I_X7_rehearseWith_30 rfl rfl
  replace H := i_gfr (q := 34) H I_X7_rehearseWith_31 G_7_26 cn_X7_rehearseWith LY_0 rfl rfl
  replace H := i_bip (x := 31) (q := 36) H I_X7_rehearseWith_34 (by decide) rfl
  have W := i_cv1 2 (q := 39) H I_X7_rehearseWith_36 K_7_179 Zm_44 rfl rfl
  clear H
  obtain ⟨r1, h1, Hc, K1, K2⟩ := W
  obtain ⟨M_36, e1, e2, F_36⟩ := t_play31 (LV_st (LV_b hL0 l8 l6 F_11) hp) (gok_c hg hp hv) Hc
  have H := K1 _ _ e1 e2
  clear e1 e2 Hc K1 K2
  obtain ⟨hr, hh⟩ := i_ir H I_X7_rehearseWith_39
  exact ⟨M_36, hr, hh, F_36.1, fun a b hab => (F_36.2 a b hab).trans ((zset_f (by omega)).trans (F_11.2.2.2.2.2.2 a b (by omega)))⟩
def gCf (c : Nat) (g : Nat → Int32) (i : Nat) : Int32 := (gPl c (gset g (gat g i) 0)).2.1
def gW2 (w : Int32) (x : Int32 × Int32) : Int32 := if w = 0 ∨ x.1 = -4 then x.1 else x.2
theorem gW2_0 {w : Int32} {x : Int32 × Int32} (h : w = 0) : gW2 w x = x.1 := if_pos (Or.inl h)
theorem gW2_1 {w : Int32} {x : Int32 × Int32} (h : x.1 = -4) : gW2 w x = x.1 := if_pos (Or.inr h)
theorem gW2_2 {w : Int32} {x : Int32 × Int32} (h : ¬ w = 0) (h1 : ¬ x.1 = -4) : gW2 w x = x.2 := if_neg (fun q => q.elim h h1)
def gClean (c : Nat) (g : Nat → Int32) (w : Int32) : Int32 := if zBt w 0 1 then gW2 w (gBs (gCf c g) Int32.ofNat c 0 (-4) (gPl c g).2.1) else -1
theorem cl_7 {c : Nat} {g : Nat → Int32} {w : Int32} (hg : gok g c) : ∀ (j i : Nat) (b mo : Int32) (d : Nat) (r : Option Value) (h' : zHp) (m : zM), i + j = c → LV m 11 c g → zE none d zm_X7_clean 22 [.ref 0, .int w, .int b, .int mo, .int (Int32.ofNat i), .null] [] m r h' → r = some (.int (gW2 w (gBs (gCf c g) Int32.ofNat j i b mo))) := by
  intro j
  induction j with
  | zero =>
    intro i b mo d r h' m hj hL H
    have hL0 := hL
    obtain ⟨l1, l2, l3, l4, l5, a, l6, l7, l8, l9⟩ := hL
    replace H := i_il (q := 24) H I_X7_clean_22 rfl rfl
    replace H := i_aln (q := 25) H I_X7_clean_24 rfl rfl
    replace H := i_gfr (q := 28) H I_X7_clean_25 G_7_19 cn_X7_clean LY_0 rfl rfl
    replace H := i_gfi (q := 31) H I_X7_clean_28 G_7_90 cn_X7_clean LY_11 rfl rfl
    have W := i_ic_ge (t := 61) (q := 34) H I_X7_clean_31 (by decide) rfl
    clear H
    rcases W with ⟨c_31, H⟩ | ⟨c_31, H⟩
    · skip
      replace H := i_iln (q := 62) H I_X7_clean_61 rfl rfl
      have W := i_if_eq (t := 71) (q := 65) H I_X7_clean_62 (by decide) rfl
      clear H
      rcases W with ⟨c_62, H⟩ | ⟨c_62, H⟩
      · skip
        replace H := i_iln (q := 72) H I_X7_clean_71 rfl rfl
        replace H := i_goto (q := 76) H I_X7_clean_72 (by decide)
        obtain ⟨hr, hh⟩ := i_ir H I_X7_clean_76
        exact hr.trans (by rw [gBs, gW2_0 c_62])
      · skip
        replace H := i_iln (q := 66) H I_X7_clean_65 rfl rfl
        replace H := i_bip (x := (-4)) (q := 68) H I_X7_clean_66 (by decide) rfl
        have W := i_ic_ne (t := 75) (q := 71) H I_X7_clean_68 (by decide) rfl
        clear H
        rcases W with ⟨c_68, H⟩ | ⟨c_68, H⟩
        · skip
          replace H := i_iln (q := 76) H I_X7_clean_75 rfl rfl
          obtain ⟨hr, hh⟩ := i_ir H I_X7_clean_76
          exact hr.trans (by rw [gBs, gW2_2 c_62 c_68])
        · skip
          replace H := i_iln (q := 72) H I_X7_clean_71 rfl rfl
          replace H := i_goto (q := 76) H I_X7_clean_72 (by decide)
          obtain ⟨hr, hh⟩ := i_ir H I_X7_clean_76
          exact hr.trans (by rw [gBs, gW2_1 c_68])
    · exfalso
      rw [l1] at c_31
      exact absurd ((zofn_lt (by omega) (by omega)).mp c_31) (by omega)
  | succ j ih =>
    intro i b mo d r h' m hj hL H
    have hL0 := hL
    obtain ⟨l1, l2, l3, l4, l5, a, l6, l7, l8, l9⟩ := hL
    replace H := i_il (q := 24) H I_X7_clean_22 rfl rfl
    replace H := i_aln (q := 25) H I_X7_clean_24 rfl rfl
    replace H := i_gfr (q := 28) H I_X7_clean_25 G_7_19 cn_X7_clean LY_0 rfl rfl
    replace H := i_gfi (q := 31) H I_X7_clean_28 G_7_90 cn_X7_clean LY_11 rfl rfl
    have W := i_ic_ge (t := 61) (q := 34) H I_X7_clean_31 (by decide) rfl
    clear H
    rcases W with ⟨c_31, H⟩ | ⟨c_31, H⟩
    · exfalso
      rw [l1] at c_31
      exact c_31 ((zofn_lt (by omega) (by omega)).mpr (by omega))
    · skip
      replace H := i_aln (q := 35) H I_X7_clean_34 rfl rfl
      replace H := i_il (q := 37) H I_X7_clean_35 rfl rfl
      replace H := i_icst (x := 0) (q := 38) H I_X7_clean_37 (by decide) rfl
      have W := i_cv2 0 (q := 41) H I_X7_clean_38 K_7_204 Zm_88 rfl rfl
      clear H
      obtain ⟨r1, h1, Hc, K1, K2⟩ := W
      obtain ⟨M_38, e1, e2, F_38⟩ := t_X7_rehearseWith (p := i) hL0 hg (by omega) ⟨by decide, by decide⟩ Hc
      have H := K1 _ _ e1 e2
      clear e1 e2 Hc K1 K2
      replace H := i_is (q := 43) H I_X7_clean_41 rfl rfl
      replace H := i_il (q := 45) H I_X7_clean_43 rfl rfl
      replace H := i_iln (q := 46) H I_X7_clean_45 rfl rfl
      have W := i_ic_le (t := 55) (q := 49) H I_X7_clean_46 (by decide) rfl
      clear H
      rcases W with ⟨c_46, H⟩ | ⟨c_46, H⟩
      · skip
        replace H := i_inc (q := 58) H I_X7_clean_55 rfl rfl rfl
        replace H := i_goto (q := 22) H I_X7_clean_58 (by decide)
        have c46 : ¬ mo < gCf c g i := c_46
        replace H := i_w [true, true, true, true, true, false] H
        replace H : zE none d zm_X7_clean 22 [.ref 0, .int w, .int b, .int mo, .int (Int32.ofNat (i + 1)), .null] [] M_38 r h' := by
          rw [← zofn_s]
          exact H
        rw [gBs, if_neg c46]
        exact ih (i + 1) b mo d r h' M_38 (by omega) (LV_f hL0 (fun a b h1 h2 => F_38.2 a b (by omega))) H
      · skip
        replace H := i_il (q := 51) H I_X7_clean_49 rfl rfl
        replace H := i_isn (q := 52) H I_X7_clean_51 rfl rfl
        replace H := i_il (q := 54) H I_X7_clean_52 rfl rfl
        replace H := i_isn (q := 55) H I_X7_clean_54 rfl rfl
        replace H := i_inc (q := 58) H I_X7_clean_55 rfl rfl rfl
        replace H := i_goto (q := 22) H I_X7_clean_58 (by decide)
        have c46 :  mo < gCf c g i := c_46
        replace H := i_w [true, true, true, true, true, false] H
        replace H : zE none d zm_X7_clean 22 [.ref 0, .int w, .int (Int32.ofNat i), .int (gCf c g i), .int (Int32.ofNat (i + 1)), .null] [] M_38 r h' := by
          rw [← zofn_s]
          exact H
        rw [gBs, if_pos c46]
        exact ih (i + 1) (Int32.ofNat i) (gCf c g i) d r h' M_38 (by omega) (LV_f hL0 (fun a b h1 h2 => F_38.2 a b (by omega))) H
theorem t_X7_clean {d : Nat} {m : zM} {r : Option Value} {h' : zHp} {w : Int32} {c : Nat} {g : Nat → Int32} (hL : LV m 11 c g) (hg : gok g c) (H : zE none d zm_X7_clean 0 [.ref 0, .int w, .null, .null, .null, .null] [] m r h') : r = some (.int (gClean c g w)) := by
  replace H := i_iln (q := 1) H I_X7_clean_0 rfl rfl
  have W := i_if_lt (t := 9) (q := 4) H I_X7_clean_1 (by decide) rfl
  clear H
  rcases W with ⟨c_1, H⟩ | ⟨c_1, H⟩
  · skip
    replace H := i_icst (x := (-1)) (q := 10) H I_X7_clean_9 (by decide) rfl
    obtain ⟨hr, hh⟩ := i_ir H I_X7_clean_10
    exact hr.trans (by rw [gClean, if_neg (fun q => q.1 c_1)])
  · skip
    replace H := i_iln (q := 5) H I_X7_clean_4 rfl rfl
    replace H := i_icst (x := 1) (q := 6) H I_X7_clean_5 (by decide) rfl
    have W := i_ic_le (t := 11) (q := 9) H I_X7_clean_6 (by decide) rfl
    clear H
    rcases W with ⟨c_6, H⟩ | ⟨c_6, H⟩
    · skip
      replace H := i_bip (x := (-4)) (q := 13) H I_X7_clean_11 (by decide) rfl
      replace H := i_isn (q := 14) H I_X7_clean_13 rfl rfl
      replace H := i_aln (q := 15) H I_X7_clean_14 rfl rfl
      have W := i_cv0 0 (q := 18) H I_X7_clean_15 K_7_161 Zm_82 rfl rfl
      clear H
      obtain ⟨r1, h1, Hc, K1, K2⟩ := W
      obtain ⟨M_15, e1, e2, F_15⟩ := t_X7_rehearse hL hg Hc
      have H := K1 _ _ e1 e2
      clear e1 e2 Hc K1 K2
      replace H := i_isn (q := 19) H I_X7_clean_18 rfl rfl
      replace H := i_icst (x := 0) (q := 20) H I_X7_clean_19 (by decide) rfl
      replace H := i_is (q := 22) H I_X7_clean_20 rfl rfl
      rw [gClean, if_pos ⟨c_1, c_6⟩]
      exact cl_7 hg c 0 (-4) (gPl c g).2.1 d r h' M_15 (by omega) (LV_f hL (fun a b h1 h2 => F_15.2 a b (by omega))) H
    · skip
      replace H := i_icst (x := (-1)) (q := 10) H I_X7_clean_9 (by decide) rfl
      obtain ⟨hr, hh⟩ := i_ir H I_X7_clean_10
      exact hr.trans (by rw [gClean, if_neg (fun q => q.2 c_6)])
theorem cl_8 {c a : Nat} {g : Nat → Int32} (hg : gok g c) (hpl : gpl g) (ha : g 26 = Int32.ofNat a) (ha8 : a ≤ 8) {w : Int32} : ∀ (j i : Nat) (b mo : Int32) (d : Nat) (r : Option Value) (h' : zHp) (m : zM), i + j = c → PG m 0 g → m 71 2 = Int32.ofNat c → zMk m → zE none d zm_X8_clean 28 [.ref 71, .int w, .int mo, .int b, .int (Int32.ofNat i)] [] m r h' → r = some (.int (gW2 w (gBs (gCf c g) Int32.ofNat j i b mo))) := by
  intro j
  induction j with
  | zero =>
    intro i b mo d r h' m hj hP hc hM H
    have hc5 := hg.1
    replace H := i_il (q := 30) H I_X8_clean_28 rfl rfl
    replace H := i_aln (q := 31) H I_X8_clean_30 rfl rfl
    replace H := i_gfi (q := 34) H I_X8_clean_31 G_8_131 cn_X8_clean LY_71 rfl rfl
    have W := i_ic_ge (t := 101) (q := 37) H I_X8_clean_34 (by decide) rfl
    clear H
    rcases W with ⟨c_34, H⟩ | ⟨c_34, H⟩
    · skip
      replace H := i_iln (q := 102) H I_X8_clean_101 rfl rfl
      replace H := i_bip (x := (-4)) (q := 104) H I_X8_clean_102 (by decide) rfl
      have W := i_ic_eq (t := 111) (q := 107) H I_X8_clean_104 (by decide) rfl
      clear H
      rcases W with ⟨c_104, H⟩ | ⟨c_104, H⟩
      · skip
        replace H := i_iln (q := 112) H I_X8_clean_111 rfl rfl
        replace H := i_goto (q := 116) H I_X8_clean_112 (by decide)
        obtain ⟨hr, hh⟩ := i_ir H I_X8_clean_116
        exact hr.trans (by rw [gBs, gW2_1 c_104])
      · skip
        replace H := i_iln (q := 108) H I_X8_clean_107 rfl rfl
        have W := i_if_ne (t := 115) (q := 111) H I_X8_clean_108 (by decide) rfl
        clear H
        rcases W with ⟨c_108, H⟩ | ⟨c_108, H⟩
        · skip
          replace H := i_iln (q := 116) H I_X8_clean_115 rfl rfl
          obtain ⟨hr, hh⟩ := i_ir H I_X8_clean_116
          exact hr.trans (by rw [gBs, gW2_2 c_108 c_104])
        · skip
          replace H := i_iln (q := 112) H I_X8_clean_111 rfl rfl
          replace H := i_goto (q := 116) H I_X8_clean_112 (by decide)
          obtain ⟨hr, hh⟩ := i_ir H I_X8_clean_116
          exact hr.trans (by rw [gBs, gW2_0 c_108])
    · exfalso
      rw [hc] at c_34
      exact absurd ((zofn_lt (by omega) (by omega)).mp c_34) (by omega)
  | succ j ih =>
    intro i b mo d r h' m hj hP hc hM H
    have hc5 := hg.1
    replace H := i_il (q := 30) H I_X8_clean_28 rfl rfl
    replace H := i_aln (q := 31) H I_X8_clean_30 rfl rfl
    replace H := i_gfi (q := 34) H I_X8_clean_31 G_8_131 cn_X8_clean LY_71 rfl rfl
    have W := i_ic_ge (t := 101) (q := 37) H I_X8_clean_34 (by decide) rfl
    clear H
    rcases W with ⟨c_34, H⟩ | ⟨c_34, H⟩
    · exfalso
      rw [hc] at c_34
      exact c_34 ((zofn_lt (by omega) (by omega)).mpr (by omega))
    · skip
      replace H := i_aln (q := 38) H I_X8_clean_37 rfl rfl
      replace H := i_icst (x := 0) (q := 39) H I_X8_clean_38 (by decide) rfl
      replace H := i_bip (x := 108) (q := 41) H I_X8_clean_39 (by decide) rfl
      have W := i_cv2 1 (q := 44) H I_X8_clean_41 K_8_188 Zm_147 rfl rfl
      clear H
      obtain ⟨r1, h1, Hc, K1, K2⟩ := W
      obtain ⟨M_41, e1, e2, F_41⟩ := t_X8_copies (f := 0) (t := 108) rfl rfl (by omega) (by omega) (by omega) Hc
      have H := K2 _ e1 e2
      clear e1 e2 Hc K1 K2
      replace H := i_aln (q := 45) H I_X8_clean_44 rfl rfl
      replace H := i_gfr (q := 48) H I_X8_clean_45 G_8_7 cn_X8_clean LY_71 rfl rfl
      replace H := i_aln (q := 49) H I_X8_clean_48 rfl rfl
      replace H := i_bip (x := 108) (q := 51) H I_X8_clean_49 (by decide) rfl
      replace H := i_il (q := 53) H I_X8_clean_51 rfl rfl
      have W := i_cv2 0 (q := 56) H I_X8_clean_53 K_8_137 Zm_128 rfl rfl
      clear H
      obtain ⟨r1, h1, Hc, K1, K2⟩ := W
      have y1 := gat_le (g := g) (i := i) (by omega)
      obtain ⟨e1, e2⟩ := t_X8_countAt (pg := 108) (PG_cp hP F_41) (by omega) Hc
      have H := K1 _ _ e1 e2
      clear e1 e2 Hc K1 K2
      replace H := i_icst (x := 0) (q := 57) H I_X8_clean_56 (by decide) rfl
      have W := i_iast (q := 58) H I_X8_clean_57 LY_72 rfl
      clear H
      obtain ⟨i_57, bi_57, ei_57, H⟩ := W
      replace H := i_aln (q := 59) H I_X8_clean_58 rfl rfl
      replace H := i_icst (x := 0) (q := 60) H I_X8_clean_59 (by decide) rfl
      have W := i_cv1 2 (q := 63) H I_X8_clean_60 K_8_192 Zm_148 rfl rfl
      clear H
      obtain ⟨r1, h1, Hc, K1, K2⟩ := W
      have e57 : 108 + gat g i = i_57 := zofn ei_57 (by omega) (by omega)
      subst e57
      obtain ⟨M_60, e1, e2, F_60⟩ := t_goes0 (PG_up (PG_cp hP F_41) (by omega)) (gok_c hg (by omega) ⟨by decide, by decide⟩) ((gset_n (by omega)).trans ha) ha8 (gpl_s hpl (by omega)) ((zup_n (by omega)).trans ((F_41.2 71 2 (by omega)).trans hc)) (zMk_f hM (fun b => (zup_n (by omega)).trans (F_41.2 73 b (by omega)))) Hc
      have H := K2 _ e1 e2
      clear e1 e2 Hc K1 K2
      replace H := i_aln (q := 64) H I_X8_clean_63 rfl rfl
      replace H := i_gfi (q := 67) H I_X8_clean_64 G_8_179 cn_X8_clean LY_71 rfl rfl
      replace H := i_iln (q := 68) H I_X8_clean_67 rfl rfl
      have W := i_ic_le (t := 76) (q := 71) H I_X8_clean_68 (by decide) rfl
      clear H
      rcases W with ⟨c_68, H⟩ | ⟨c_68, H⟩
      · skip
        replace H := i_iln (q := 77) H I_X8_clean_76 rfl rfl
        replace H := i_isn (q := 78) H I_X8_clean_77 rfl rfl
        replace H := i_aln (q := 79) H I_X8_clean_78 rfl rfl
        replace H := i_gfi (q := 82) H I_X8_clean_79 G_8_179 cn_X8_clean LY_71 rfl rfl
        replace H := i_iln (q := 83) H I_X8_clean_82 rfl rfl
        have W := i_ic_le (t := 93) (q := 86) H I_X8_clean_83 (by decide) rfl
        clear H
        rcases W with ⟨c_83, H⟩ | ⟨c_83, H⟩
        · skip
          replace H := i_iln (q := 94) H I_X8_clean_93 rfl rfl
          replace H := i_isn (q := 95) H I_X8_clean_94 rfl rfl
          replace H := i_inc (q := 98) H I_X8_clean_95 rfl rfl rfl
          replace H := i_goto (q := 28) H I_X8_clean_98 (by decide)
          obtain ⟨P1, P2, P3, P4, P5⟩ := F_60.1
          rw [P2] at c_68
          have c68 : ¬ mo < gCf c g i := c_68
          replace H : zE none d zm_X8_clean 28 [.ref 71, .int w, .int mo, .int b, .int (Int32.ofNat (i + 1))] [] M_60 r h' := by
            rw [← zofn_s]
            exact H
          rw [gBs, if_neg c68]
          exact ih (i + 1) b mo d r h' M_60 (by omega) ⟨hP.1, fun j hj => ((F_60.2 72 (0 + j) (by omega) (by omega) (by omega)).trans ((zup_n (by omega)).trans (F_41.2 72 (0 + j) (by omega)))).trans (hP.2 j hj)⟩ (((F_60.2 71 2 (by omega) (by omega) (by omega)).trans ((zup_n (by omega)).trans (F_41.2 71 2 (by omega)))).trans hc) (zMk_f hM (fun b => (F_60.2 73 b (by omega) (by omega) (by omega)).trans ((zup_n (by omega)).trans (F_41.2 73 b (by omega))))) H
        · skip
          replace H := i_aln (q := 87) H I_X8_clean_86 rfl rfl
          replace H := i_gfi (q := 90) H I_X8_clean_87 G_8_179 cn_X8_clean LY_71 rfl rfl
          replace H := i_goto (q := 94) H I_X8_clean_90 (by decide)
          replace H := i_isn (q := 95) H I_X8_clean_94 rfl rfl
          replace H := i_inc (q := 98) H I_X8_clean_95 rfl rfl rfl
          replace H := i_goto (q := 28) H I_X8_clean_98 (by decide)
          exact absurd c_83 c_68
      · skip
        replace H := i_il (q := 73) H I_X8_clean_71 rfl rfl
        replace H := i_goto (q := 77) H I_X8_clean_73 (by decide)
        replace H := i_isn (q := 78) H I_X8_clean_77 rfl rfl
        replace H := i_aln (q := 79) H I_X8_clean_78 rfl rfl
        replace H := i_gfi (q := 82) H I_X8_clean_79 G_8_179 cn_X8_clean LY_71 rfl rfl
        replace H := i_iln (q := 83) H I_X8_clean_82 rfl rfl
        have W := i_ic_le (t := 93) (q := 86) H I_X8_clean_83 (by decide) rfl
        clear H
        rcases W with ⟨c_83, H⟩ | ⟨c_83, H⟩
        · skip
          replace H := i_iln (q := 94) H I_X8_clean_93 rfl rfl
          replace H := i_isn (q := 95) H I_X8_clean_94 rfl rfl
          replace H := i_inc (q := 98) H I_X8_clean_95 rfl rfl rfl
          replace H := i_goto (q := 28) H I_X8_clean_98 (by decide)
          exact absurd c_68 c_83
        · skip
          replace H := i_aln (q := 87) H I_X8_clean_86 rfl rfl
          replace H := i_gfi (q := 90) H I_X8_clean_87 G_8_179 cn_X8_clean LY_71 rfl rfl
          replace H := i_goto (q := 94) H I_X8_clean_90 (by decide)
          replace H := i_isn (q := 95) H I_X8_clean_94 rfl rfl
          replace H := i_inc (q := 98) H I_X8_clean_95 rfl rfl rfl
          replace H := i_goto (q := 28) H I_X8_clean_98 (by decide)
          obtain ⟨P1, P2, P3, P4, P5⟩ := F_60.1
          rw [P2] at c_68
          have c68 :  mo < gCf c g i := c_68
          replace H : zE none d zm_X8_clean 28 [.ref 71, .int w, .int (gCf c g i), .int (Int32.ofNat i), .int (Int32.ofNat (i + 1))] [] M_60 r h' := by
            rw [← zofn_s]
            rw [P2] at H
            exact H
          rw [gBs, if_pos c68]
          exact ih (i + 1) (Int32.ofNat i) (gCf c g i) d r h' M_60 (by omega) ⟨hP.1, fun j hj => ((F_60.2 72 (0 + j) (by omega) (by omega) (by omega)).trans ((zup_n (by omega)).trans (F_41.2 72 (0 + j) (by omega)))).trans (hP.2 j hj)⟩ (((F_60.2 71 2 (by omega) (by omega) (by omega)).trans ((zup_n (by omega)).trans (F_41.2 71 2 (by omega)))).trans hc) (zMk_f hM (fun b => (F_60.2 73 b (by omega) (by omega) (by omega)).trans ((zup_n (by omega)).trans (F_41.2 73 b (by omega))))) H
theorem t_X8_clean {d : Nat} {m : zM} {r : Option Value} {h' : zHp} {w : Int32} {c a : Nat} {g : Nat → Int32} (hP : PG m 0 g) (hg : gok g c) (hpl : gpl g) (ha : g 26 = Int32.ofNat a) (ha8 : a ≤ 8) (hc : m 71 2 = Int32.ofNat c) (hM : zMk m) (H : zE none d zm_X8_clean 0 [.ref 71, .int w, .null, .null, .null] [] m r h') : r = some (.int (gClean c g w)) := by
  replace H := i_iln (q := 1) H I_X8_clean_0 rfl rfl
  replace H := i_i2l (q := 2) H I_X8_clean_1 rfl
  replace H := i_lcst (x := 0) (q := 3) H I_X8_clean_2 (by decide) rfl
  replace H := i_lcst (x := 1) (q := 4) H I_X8_clean_3 (by decide) rfl
  replace H := i_in (q := 7) H I_X8_clean_4 K_8_55 rfl
  have W := i_if_ne (t := 12) (q := 10) H I_X8_clean_7 (by decide) rfl
  clear H
  rcases W with ⟨c_7, H⟩ | ⟨c_7, H⟩
  · skip
    replace H := i_aln (q := 13) H I_X8_clean_12 rfl rfl
    replace H := i_icst (x := 0) (q := 14) H I_X8_clean_13 (by decide) rfl
    have W := i_cv1 0 (q := 17) H I_X8_clean_14 K_8_195 Zm_149 rfl rfl
    clear H
    obtain ⟨r1, h1, Hc, K1, K2⟩ := W
    obtain ⟨M_14, e1, e2, F_14⟩ := t_X8_tries hP hg hpl ha ha8 hc hM Hc
    have H := K2 _ e1 e2
    clear e1 e2 Hc K1 K2
    replace H := i_aln (q := 18) H I_X8_clean_17 rfl rfl
    replace H := i_gfi (q := 21) H I_X8_clean_18 G_8_179 cn_X8_clean LY_71 rfl rfl
    replace H := i_isn (q := 22) H I_X8_clean_21 rfl rfl
    replace H := i_bip (x := (-4)) (q := 24) H I_X8_clean_22 (by decide) rfl
    replace H := i_isn (q := 25) H I_X8_clean_24 rfl rfl
    replace H := i_icst (x := 0) (q := 26) H I_X8_clean_25 (by decide) rfl
    replace H := i_is (q := 28) H I_X8_clean_26 rfl rfl
    rw [zin_bt (lo := 0) (hi := 1) rfl rfl] at c_7
    obtain ⟨P1, P2, P3, P4, P5⟩ := F_14.1
    rw [P2] at H
    rw [gClean, if_pos (zif1 c_7)]
    exact cl_8 hg hpl ha ha8 c 0 (-4) (gPl c g).2.1 d r h' M_14 (by omega) ⟨hP.1, fun j hj => (F_14.2 72 (0 + j) (by omega) (by omega) (by omega)).trans (hP.2 j hj)⟩ ((F_14.2 71 2 (by omega) (by omega) (by omega)).trans hc) (zMk_f hM (fun b => F_14.2 73 b (by omega) (by omega) (by omega))) H
  · skip
    replace H := i_icst (x := (-1)) (q := 11) H I_X8_clean_10 (by decide) rfl
    obtain ⟨hr, hh⟩ := i_ir H I_X8_clean_11
    rw [zin_bt (lo := 0) (hi := 1) rfl rfl] at c_7
    exact hr.trans (by rw [gClean, if_neg (zif0 c_7)])
theorem pd_clean {m : zM} {r : Option Value} {h' : zHp} {x0 : Int32} (ht : zTy m) (hR : RF m) (H : zEv none 19 zm_X7_clean (0, lv_args 0 [.ref 0, .int x0], [], zhp m) r h') : ∃ m1 v, r = some (.int v) ∧ h' = zhp m1 ∧ zTy m1 ∧ ∀ r2 h2, zEv none 19 zm_X8_clean (0, lv_args 0 [.ref 71, .int x0], [], zhp m1) r2 h2 → ∃ m2 v2, r2 = some (.int v2) ∧ h2 = zhp m2 ∧ zTy m2 ∧ RF m2 ∧ v = v2 := by
  have hR0 := hR
  obtain ⟨⟨_, hM, _, _, c, c1, ⟨hL, hb⟩, _⟩, _⟩ := hR
  have hg := gok_11 ht hL
  have hpl := gpl_0 ht
  obtain ⟨a, a6, a7, _⟩ := hL.2.2.2.2.2
  obtain ⟨m1, v, a1, a2, a3, a4⟩ := e_X7_clean ht H
  refine ⟨m1, v, a1, a2, a3, fun r2 h2 H2 => ?_⟩
  obtain ⟨m2, v2, b1, b2, b3, b4⟩ := e_X8_clean a3 H2
  refine ⟨m2, v2, b1, b2, b3, RF_f (RF_f hR0 a4 (by decide +kernel)) b4 (by decide +kernel), ?_⟩
  have hP1 : PG m1 0 (pgf m 0) := ⟨by omega, fun j hj => a4 72 (0 + j) (zpl_r LY_72 (by omega)) (ymd_c (by decide +kernel) _)⟩
  have hM1 : zMk m1 := ⟨(a4 73 0 ⟨_, LY_73, rfl⟩ (by decide +kernel)).trans hM.1, (a4 73 1 ⟨_, LY_73, rfl⟩ (by decide +kernel)).trans hM.2.1, (a4 73 2 ⟨_, LY_73, rfl⟩ (by decide +kernel)).trans hM.2.2.1, (a4 73 3 ⟨_, LY_73, rfl⟩ (by decide +kernel)).trans hM.2.2.2⟩
  have hc1 : m1 71 2 = Int32.ofNat c := (a4 71 2 ⟨_, LY_71, rfl⟩ (by decide +kernel)).trans c1
  have k1 := t_X7_clean hL hg (zE_of 4 rfl H)
  have k2 := t_X8_clean hP1 hg hpl a7 a6 hc1 hM1 (zE_of 3 rfl H2)
  rw [a1] at k1
  rw [b1] at k2
  cases k1
  cases k2
  rfl
def gTd (g : Nat → Int32) (p q : Nat) : Nat → Int32 := gset (gset g (gat g p) (gcn g q)) (gat (gset g (gat g p) (gcn g q)) q) (gcn g p)
def gTf (c : Nat) (g : Nat → Int32) (p q : Nat) : Int32 := (gPl c (gTd g p q)).2.1
def gTx (p q : Nat) : Int32 := 10 * Int32.ofNat p + Int32.ofNat q
def gT2 (c : Nat) (g : Nat → Int32) : Nat → Nat → Int32 × Int32 → Int32 × Int32
  | 0, _, x => x
  | j + 1, p, x => gT2 c g j (p + 1) (gBs (gTf c g p) (gTx p) (c - (p + 1)) (p + 1) x.1 x.2)
def gTrade (c : Nat) (g : Nat → Int32) (w : Int32) : Int32 := if zBt w 0 1 then gW2 w (gT2 c g c 0 (-4, (gPl c g).2.1)) else -1
theorem gok_td {g : Nat → Int32} {c p q : Nat} (h : gok g c) (hp : p < c) (hq : q < c) : gok (gTd g p q) c := gok_c (gok_c h hp (gok_v h hq)) hq (gok_v h hp)
theorem gat_k {g : Nat → Int32} {p : Nat} (hp : p < 5) : 5 ≤ gat g p ∧ gat g p < 15 := ⟨(gat_le hp).2, (gat_le hp).1⟩
theorem gTd_k {g : Nat → Int32} {p q j : Nat} (hp : p < 5) (hq : q < 5) (hj : 15 ≤ j) : gTd g p q j = g j := by
  have y1 := gat_k (g := g) hp
  have y2 := gat_k (g := gset g (gat g p) (gcn g q)) hq
  unfold gTd
  rw [gset_n (by omega), gset_n (by omega)]
theorem gpl_td {g : Nat → Int32} {p q : Nat} (h : gpl g) (hp : p < 5) (hq : q < 5) : gpl (gTd g p q) := fun i hi => by
  rw [gTd_k hp hq (by omega)]
  exact h i hi
theorem t_X0_swapTurned {d : Nat} {m : zM} {r : Option Value} {h' : zHp} {k c p q : Nat} {g : Nat → Int32} (hk : zlk6 k) (hL : LV m k c g) (hp : p < c) (hq : q < c) (H : zE none d zm_X0_swapTurned 0 [.ref k, .int (Int32.ofNat p), .int (Int32.ofNat q), .null] [] m r h') : ∃ m1, r = none ∧ h' = zhp m1 ∧ LV m1 k c (gTd g p q) ∧ ∀ a b, ¬ (k ≤ a ∧ a ≤ k + 7) → m1 a b = m a b := by
  have hc5 := hL.2.1
  replace H := i_aln (q := 1) H I_X0_swapTurned_0 rfl rfl
  replace H := i_gfr (q := 4) H I_X0_swapTurned_1 G_0_11 cn_X0_swapTurned (lk_0 hk) rfl rfl
  replace H := i_iln (q := 5) H I_X0_swapTurned_4 rfl rfl
  have W := i_folk (k := k) hk (q := 6) H I_X0_swapTurned_5 rfl
  clear H
  obtain ⟨i_5, bi_5, ei_5, H⟩ := W
  have ei_5 := zofn ei_5 (by omega) (by omega)
  subst ei_5
  have W := i_cv0 0 (q := 9) H I_X0_swapTurned_6 K_0_51 Zm_20 rfl rfl
  clear H
  obtain ⟨r1, h1, Hc, K1, K2⟩ := W
  obtain ⟨e1, e2⟩ := t_X1_turned (lk_p hk bi_5) Hc
  have H := K1 _ _ e1 e2
  clear e1 e2 Hc K1 K2
  replace H := i_isn (q := 10) H I_X0_swapTurned_9 rfl rfl
  replace H := i_aln (q := 11) H I_X0_swapTurned_10 rfl rfl
  replace H := i_gfr (q := 14) H I_X0_swapTurned_11 G_0_11 cn_X0_swapTurned (lk_0 hk) rfl rfl
  replace H := i_iln (q := 15) H I_X0_swapTurned_14 rfl rfl
  have W := i_folk (k := k) hk (q := 16) H I_X0_swapTurned_15 rfl
  clear H
  obtain ⟨i_15, bi_15, ei_15, H⟩ := W
  have ei_15 := zofn ei_15 (by omega) (by omega)
  subst ei_15
  replace H := i_aln (q := 17) H I_X0_swapTurned_16 rfl rfl
  replace H := i_gfr (q := 20) H I_X0_swapTurned_17 G_0_11 cn_X0_swapTurned (lk_0 hk) rfl rfl
  replace H := i_iln (q := 21) H I_X0_swapTurned_20 rfl rfl
  have W := i_folk (k := k) hk (q := 22) H I_X0_swapTurned_21 rfl
  clear H
  obtain ⟨i_21, bi_21, ei_21, H⟩ := W
  have ei_21 := zofn ei_21 (by omega) (by omega)
  subst ei_21
  have W := i_cv0 0 (q := 25) H I_X0_swapTurned_22 K_0_51 Zm_20 rfl rfl
  clear H
  obtain ⟨r1, h1, Hc, K1, K2⟩ := W
  obtain ⟨e1, e2⟩ := t_X1_turned (lk_p hk bi_21) Hc
  have H := K1 _ _ e1 e2
  clear e1 e2 Hc K1 K2
  have W := i_cv1 0 (q := 28) H I_X0_swapTurned_25 K_0_55 Zm_21 rfl rfl
  clear H
  obtain ⟨r1, h1, Hc, K1, K2⟩ := W
  obtain ⟨e1, e2⟩ := t_X1_setTurned (lk_p hk bi_15) Hc
  have H := K2 _ e1 e2
  clear e1 e2 Hc K1 K2
  replace H := i_aln (q := 29) H I_X0_swapTurned_28 rfl rfl
  replace H := i_gfr (q := 32) H I_X0_swapTurned_29 G_0_11 cn_X0_swapTurned (lk_0 hk) rfl rfl
  replace H := i_iln (q := 33) H I_X0_swapTurned_32 rfl rfl
  have W := i_folk (k := k) hk (q := 34) H I_X0_swapTurned_33 rfl
  clear H
  obtain ⟨i_33, bi_33, ei_33, H⟩ := W
  have ei_33 := zofn ei_33 (by omega) (by omega)
  subst ei_33
  replace H := i_iln (q := 35) H I_X0_swapTurned_34 rfl rfl
  have W := i_cv1 0 (q := 38) H I_X0_swapTurned_35 K_0_55 Zm_21 rfl rfl
  clear H
  obtain ⟨r1, h1, Hc, K1, K2⟩ := W
  obtain ⟨e1, e2⟩ := t_X1_setTurned (lk_p hk bi_33) Hc
  have H := K2 _ e1 e2
  clear e1 e2 Hc K1 K2
  obtain ⟨hr, hh⟩ := i_rt H I_X0_swapTurned_38
  have e1 : zcnt m (k + 3 + p) = gcn g p := LV_c hL hp
  have e2 : zcnt m (k + 3 + q) = gcn g q := LV_c hL hq
  rw [e1, e2] at hh
  exact ⟨_, hr, hh, LV_st (LV_st hL hp) hq, fun a b hab => (zset_f (by omega)).trans (zset_f (by omega))⟩
theorem tr_7 {c : Nat} {g : Nat → Int32} {w : Int32} (hg : gok g c) {p : Nat} (hp : p < c) : ∀ (j i : Nat) (b mo : Int32) (d : Nat) (r : Option Value) (h' : zHp) (m : zM), i + j = c → LV m 11 c g → zE none d zm_X7_trade 40 [.ref 0, .int w, .int b, .int mo, .int (Int32.ofNat p), .int (Int32.ofNat i), .null] [] m r h' → ∃ m1, LV m1 11 c g ∧ zE none d zm_X7_trade 22 [.ref 0, .int w, .int (gBs (gTf c g p) (gTx p) j i b mo).1, .int (gBs (gTf c g p) (gTx p) j i b mo).2, .int (Int32.ofNat (p + 1)), .null, .null] [] m1 r h' := by
  intro j
  induction j with
  | zero =>
    intro i b mo d r h' m hj hL H
    have hL0 := hL
    obtain ⟨l1, l2, l3, l4, l5, a, l6, l7, l8, l9⟩ := hL
    replace H := i_il (q := 42) H I_X7_trade_40 rfl rfl
    replace H := i_aln (q := 43) H I_X7_trade_42 rfl rfl
    replace H := i_gfr (q := 46) H I_X7_trade_43 G_7_19 cn_X7_trade LY_0 rfl rfl
    replace H := i_gfi (q := 49) H I_X7_trade_46 G_7_90 cn_X7_trade LY_11 rfl rfl
    have W := i_ic_ge (t := 115) (q := 52) H I_X7_trade_49 (by decide) rfl
    clear H
    rcases W with ⟨c_49, H⟩ | ⟨c_49, H⟩
    · skip
      replace H := i_inc (q := 118) H I_X7_trade_115 rfl rfl rfl
      replace H := i_goto (q := 22) H I_X7_trade_118 (by decide)
      replace H := i_w [true, true, true, true, true, false, false] H
      replace H : zE none d zm_X7_trade 22 [.ref 0, .int w, .int b, .int mo, .int (Int32.ofNat (p + 1)), .null, .null] [] m r h' := by
        rw [← zofn_s]
        exact H
      exact ⟨m, hL0, H⟩
    · exfalso
      rw [l1] at c_49
      exact absurd ((zofn_lt (by omega) (by omega)).mp c_49) (by omega)
  | succ j ih =>
    intro i b mo d r h' m hj hL H
    have hL0 := hL
    obtain ⟨l1, l2, l3, l4, l5, a, l6, l7, l8, l9⟩ := hL
    replace H := i_il (q := 42) H I_X7_trade_40 rfl rfl
    replace H := i_aln (q := 43) H I_X7_trade_42 rfl rfl
    replace H := i_gfr (q := 46) H I_X7_trade_43 G_7_19 cn_X7_trade LY_0 rfl rfl
    replace H := i_gfi (q := 49) H I_X7_trade_46 G_7_90 cn_X7_trade LY_11 rfl rfl
    have W := i_ic_ge (t := 115) (q := 52) H I_X7_trade_49 (by decide) rfl
    clear H
    rcases W with ⟨c_49, H⟩ | ⟨c_49, H⟩
    · exfalso
      rw [l1] at c_49
      exact c_49 ((zofn_lt (by omega) (by omega)).mpr (by omega))
    · skip
      replace H := i_aln (q := 53) H I_X7_trade_52 rfl rfl
      replace H := i_gfr (q := 56) H I_X7_trade_53 G_7_26 cn_X7_trade LY_0 rfl rfl
      replace H := i_gfr (q := 59) H I_X7_trade_56 G_7_173 cn_X7_trade LY_19 rfl rfl
      replace H := i_aln (q := 60) H I_X7_trade_59 rfl rfl
      replace H := i_gfr (q := 63) H I_X7_trade_60 G_7_19 cn_X7_trade LY_0 rfl rfl
      have W := i_cv1 1 (q := 66) H I_X7_trade_63 K_7_77 Zm_2 rfl rfl
      clear H
      obtain ⟨r1, h1, Hc, K1, K2⟩ := W
      obtain ⟨M_63, e1, e2, F_63⟩ := t_become lkk_20 lkk_11 (by omega) l1 l2 l8 l6 Hc
      have H := K2 _ e1 e2
      clear e1 e2 Hc K1 K2
      replace H := i_aln (q := 67) H I_X7_trade_66 rfl rfl
      replace H := i_gfr (q := 70) H I_X7_trade_67 G_7_26 cn_X7_trade LY_0 rfl rfl
      replace H := i_gfr (q := 73) H I_X7_trade_70 G_7_173 cn_X7_trade LY_19 rfl rfl
      replace H := i_il (q := 75) H I_X7_trade_73 rfl rfl
      replace H := i_il (q := 77) H I_X7_trade_75 rfl rfl
      have W := i_cv2 1 (q := 80) H I_X7_trade_77 K_7_210 Zm_8 rfl rfl
      clear H
      obtain ⟨r1, h1, Hc, K1, K2⟩ := W
      obtain ⟨M_77, e1, e2, F_77⟩ := t_X0_swapTurned (p := p) (q := i) lkk_20 (LV_b hL0 l8 l6 F_63) (by omega) (by omega) Hc
      have H := K2 _ e1 e2
      clear e1 e2 Hc K1 K2
      replace H := i_aln (q := 81) H I_X7_trade_80 rfl rfl
      replace H := i_gfr (q := 84) H I_X7_trade_81 G_7_26 cn_X7_trade LY_0 rfl rfl
      replace H := i_bip (x := 31) (q := 86) H I_X7_trade_84 (by decide) rfl
      have W := i_cv1 2 (q := 89) H I_X7_trade_86 K_7_179 Zm_44 rfl rfl
      clear H
      obtain ⟨r1, h1, Hc, K1, K2⟩ := W
      obtain ⟨M_86, e1, e2, F_86⟩ := t_play31 F_77.1 (gok_td hg (by omega) (by omega)) Hc
      have H := K1 _ _ e1 e2
      clear e1 e2 Hc K1 K2
      replace H := i_is (q := 91) H I_X7_trade_89 rfl rfl
      replace H := i_il (q := 93) H I_X7_trade_91 rfl rfl
      replace H := i_iln (q := 94) H I_X7_trade_93 rfl rfl
      have W := i_ic_le (t := 109) (q := 97) H I_X7_trade_94 (by decide) rfl
      clear H
      rcases W with ⟨c_94, H⟩ | ⟨c_94, H⟩
      · skip
        replace H := i_inc (q := 112) H I_X7_trade_109 rfl rfl rfl
        replace H := i_goto (q := 40) H I_X7_trade_112 (by decide)
        have c94 : ¬ mo < gTf c g p i := c_94
        replace H := i_w [true, true, true, true, true, true, false] H
        replace H : zE none d zm_X7_trade 40 [.ref 0, .int w, .int b, .int mo, .int (Int32.ofNat p), .int (Int32.ofNat (i + 1)), .null] [] M_86 r h' := by
          rw [← zofn_s]
          exact H
        rw [gBs, if_neg c94]
        exact ih (i + 1) b mo d r h' M_86 (by omega) (LV_f hL0 (fun a b h1 h2 => (F_86.2 a b (by omega)).trans ((F_77.2 a b (by omega)).trans (F_63.2.2.2.2.2.2 a b (by omega))))) H
      · skip
        replace H := i_il (q := 99) H I_X7_trade_97 rfl rfl
        replace H := i_isn (q := 100) H I_X7_trade_99 rfl rfl
        replace H := i_bip (x := 10) (q := 102) H I_X7_trade_100 (by decide) rfl
        replace H := i_il (q := 104) H I_X7_trade_102 rfl rfl
        replace H := i_imul (q := 105) H I_X7_trade_104 rfl
        replace H := i_il (q := 107) H I_X7_trade_105 rfl rfl
        replace H := i_iadd (q := 108) H I_X7_trade_107 rfl
        replace H := i_isn (q := 109) H I_X7_trade_108 rfl rfl
        replace H := i_inc (q := 112) H I_X7_trade_109 rfl rfl rfl
        replace H := i_goto (q := 40) H I_X7_trade_112 (by decide)
        have c94 :  mo < gTf c g p i := c_94
        replace H := i_w [true, true, true, true, true, true, false] H
        replace H : zE none d zm_X7_trade 40 [.ref 0, .int w, .int (gTx p i), .int (gTf c g p i), .int (Int32.ofNat p), .int (Int32.ofNat (i + 1)), .null] [] M_86 r h' := by
          rw [← zofn_s]
          exact H
        rw [gBs, if_pos c94]
        exact ih (i + 1) (gTx p i) (gTf c g p i) d r h' M_86 (by omega) (LV_f hL0 (fun a b h1 h2 => (F_86.2 a b (by omega)).trans ((F_77.2 a b (by omega)).trans (F_63.2.2.2.2.2.2 a b (by omega))))) H
theorem to_7 {c : Nat} {g : Nat → Int32} {w : Int32} (hg : gok g c) : ∀ (j i : Nat) (x : Int32 × Int32) (d : Nat) (r : Option Value) (h' : zHp) (m : zM), i + j = c → LV m 11 c g → zE none d zm_X7_trade 22 [.ref 0, .int w, .int x.1, .int x.2, .int (Int32.ofNat i), .null, .null] [] m r h' → r = some (.int (gW2 w (gT2 c g j i x))) := by
  intro j
  induction j with
  | zero =>
    intro i x d r h' m hj hL H
    have hL0 := hL
    obtain ⟨l1, l2, l3, l4, l5, a, l6, l7, l8, l9⟩ := hL
    replace H := i_il (q := 24) H I_X7_trade_22 rfl rfl
    replace H := i_aln (q := 25) H I_X7_trade_24 rfl rfl
    replace H := i_gfr (q := 28) H I_X7_trade_25 G_7_19 cn_X7_trade LY_0 rfl rfl
    replace H := i_gfi (q := 31) H I_X7_trade_28 G_7_90 cn_X7_trade LY_11 rfl rfl
    have W := i_ic_ge (t := 121) (q := 34) H I_X7_trade_31 (by decide) rfl
    clear H
    rcases W with ⟨c_31, H⟩ | ⟨c_31, H⟩
    · skip
      replace H := i_iln (q := 122) H I_X7_trade_121 rfl rfl
      have W := i_if_eq (t := 131) (q := 125) H I_X7_trade_122 (by decide) rfl
      clear H
      rcases W with ⟨c_122, H⟩ | ⟨c_122, H⟩
      · skip
        replace H := i_iln (q := 132) H I_X7_trade_131 rfl rfl
        replace H := i_goto (q := 136) H I_X7_trade_132 (by decide)
        obtain ⟨hr, hh⟩ := i_ir H I_X7_trade_136
        exact hr.trans (by rw [gT2, gW2_0 c_122])
      · skip
        replace H := i_iln (q := 126) H I_X7_trade_125 rfl rfl
        replace H := i_bip (x := (-4)) (q := 128) H I_X7_trade_126 (by decide) rfl
        have W := i_ic_ne (t := 135) (q := 131) H I_X7_trade_128 (by decide) rfl
        clear H
        rcases W with ⟨c_128, H⟩ | ⟨c_128, H⟩
        · skip
          replace H := i_iln (q := 136) H I_X7_trade_135 rfl rfl
          obtain ⟨hr, hh⟩ := i_ir H I_X7_trade_136
          exact hr.trans (by rw [gT2, gW2_2 c_122 c_128])
        · skip
          replace H := i_iln (q := 132) H I_X7_trade_131 rfl rfl
          replace H := i_goto (q := 136) H I_X7_trade_132 (by decide)
          obtain ⟨hr, hh⟩ := i_ir H I_X7_trade_136
          exact hr.trans (by rw [gT2, gW2_1 c_128])
    · exfalso
      rw [l1] at c_31
      exact absurd ((zofn_lt (by omega) (by omega)).mp c_31) (by omega)
  | succ j ih =>
    intro i x d r h' m hj hL H
    have hL0 := hL
    obtain ⟨l1, l2, l3, l4, l5, a, l6, l7, l8, l9⟩ := hL
    replace H := i_il (q := 24) H I_X7_trade_22 rfl rfl
    replace H := i_aln (q := 25) H I_X7_trade_24 rfl rfl
    replace H := i_gfr (q := 28) H I_X7_trade_25 G_7_19 cn_X7_trade LY_0 rfl rfl
    replace H := i_gfi (q := 31) H I_X7_trade_28 G_7_90 cn_X7_trade LY_11 rfl rfl
    have W := i_ic_ge (t := 121) (q := 34) H I_X7_trade_31 (by decide) rfl
    clear H
    rcases W with ⟨c_31, H⟩ | ⟨c_31, H⟩
    · exfalso
      rw [l1] at c_31
      exact c_31 ((zofn_lt (by omega) (by omega)).mpr (by omega))
    · skip
      replace H := i_il (q := 36) H I_X7_trade_34 rfl rfl
      replace H := i_icst (x := 1) (q := 37) H I_X7_trade_36 (by decide) rfl
      replace H := i_iadd (q := 38) H I_X7_trade_37 rfl
      replace H := i_is (q := 40) H I_X7_trade_38 rfl rfl
      replace H : zE none d zm_X7_trade 40 [.ref 0, .int w, .int x.1, .int x.2, .int (Int32.ofNat i), .int (Int32.ofNat (i + 1)), .null] [] m r h' := by
        rw [← zofn_s (i := i)]
        exact H
      obtain ⟨m1, k1, k2⟩ := tr_7 hg (p := i) (by omega) (c - (i + 1)) (i + 1) x.1 x.2 d r h' m (by omega) hL0 H
      rw [gT2]
      exact ih (i + 1) _ d r h' m1 (by omega) k1 k2
theorem t_X7_trade {d : Nat} {m : zM} {r : Option Value} {h' : zHp} {w : Int32} {c : Nat} {g : Nat → Int32} (hL : LV m 11 c g) (hg : gok g c) (H : zE none d zm_X7_trade 0 [.ref 0, .int w, .null, .null, .null, .null, .null] [] m r h') : r = some (.int (gTrade c g w)) := by
  replace H := i_iln (q := 1) H I_X7_trade_0 rfl rfl
  have W := i_if_lt (t := 9) (q := 4) H I_X7_trade_1 (by decide) rfl
  clear H
  rcases W with ⟨c_1, H⟩ | ⟨c_1, H⟩
  · skip
    replace H := i_icst (x := (-1)) (q := 10) H I_X7_trade_9 (by decide) rfl
    obtain ⟨hr, hh⟩ := i_ir H I_X7_trade_10
    exact hr.trans (by rw [gTrade, if_neg (fun q => q.1 c_1)])
  · skip
    replace H := i_iln (q := 5) H I_X7_trade_4 rfl rfl
    replace H := i_icst (x := 1) (q := 6) H I_X7_trade_5 (by decide) rfl
    have W := i_ic_le (t := 11) (q := 9) H I_X7_trade_6 (by decide) rfl
    clear H
    rcases W with ⟨c_6, H⟩ | ⟨c_6, H⟩
    · skip
      replace H := i_bip (x := (-4)) (q := 13) H I_X7_trade_11 (by decide) rfl
      replace H := i_isn (q := 14) H I_X7_trade_13 rfl rfl
      replace H := i_aln (q := 15) H I_X7_trade_14 rfl rfl
      have W := i_cv0 0 (q := 18) H I_X7_trade_15 K_7_161 Zm_82 rfl rfl
      clear H
      obtain ⟨r1, h1, Hc, K1, K2⟩ := W
      obtain ⟨M_15, e1, e2, F_15⟩ := t_X7_rehearse hL hg Hc
      have H := K1 _ _ e1 e2
      clear e1 e2 Hc K1 K2
      replace H := i_isn (q := 19) H I_X7_trade_18 rfl rfl
      replace H := i_icst (x := 0) (q := 20) H I_X7_trade_19 (by decide) rfl
      replace H := i_is (q := 22) H I_X7_trade_20 rfl rfl
      rw [gTrade, if_pos ⟨c_1, c_6⟩]
      exact to_7 hg c 0 (-4, (gPl c g).2.1) d r h' M_15 (by omega) (LV_f hL (fun a b h1 h2 => F_15.2 a b (by omega))) H
    · skip
      replace H := i_icst (x := (-1)) (q := 10) H I_X7_trade_9 (by decide) rfl
      obtain ⟨hr, hh⟩ := i_ir H I_X7_trade_10
      exact hr.trans (by rw [gTrade, if_neg (fun q => q.2 c_6)])
theorem tr_8 {c a : Nat} {g : Nat → Int32} (hg : gok g c) (hpl : gpl g) (ha : g 26 = Int32.ofNat a) (ha8 : a ≤ 8) {w : Int32} {p : Nat} (hp : p < c) : ∀ (j i : Nat) (b mo : Int32) (d : Nat) (r : Option Value) (h' : zHp) (m : zM), i + j = c → PG m 0 g → m 71 2 = Int32.ofNat c → zMk m → zE none d zm_X8_trade 43 [.ref 71, .int w, .int mo, .int b, .int (Int32.ofNat p), .int (Int32.ofNat i)] [] m r h' → ∃ m1, PG m1 0 g ∧ m1 71 2 = Int32.ofNat c ∧ zMk m1 ∧ zE none d zm_X8_trade 28 [.ref 71, .int w, .int (gBs (gTf c g p) (gTx p) j i b mo).2, .int (gBs (gTf c g p) (gTx p) j i b mo).1, .int (Int32.ofNat (p + 1)), .null] [] m1 r h' := by
  intro j
  induction j with
  | zero =>
    intro i b mo d r h' m hj hP hc hM H
    have hc5 := hg.1
    replace H := i_il (q := 45) H I_X8_trade_43 rfl rfl
    replace H := i_aln (q := 46) H I_X8_trade_45 rfl rfl
    replace H := i_gfi (q := 49) H I_X8_trade_46 G_8_131 cn_X8_trade LY_71 rfl rfl
    have W := i_ic_ge (t := 148) (q := 52) H I_X8_trade_49 (by decide) rfl
    clear H
    rcases W with ⟨c_49, H⟩ | ⟨c_49, H⟩
    · skip
      replace H := i_inc (q := 151) H I_X8_trade_148 rfl rfl rfl
      replace H := i_goto (q := 28) H I_X8_trade_151 (by decide)
      replace H := i_w [true, true, true, true, true, false] H
      replace H : zE none d zm_X8_trade 28 [.ref 71, .int w, .int mo, .int b, .int (Int32.ofNat (p + 1)), .null] [] m r h' := by
        rw [← zofn_s]
        exact H
      exact ⟨m, hP, hc, hM, H⟩
    · exfalso
      rw [hc] at c_49
      exact absurd ((zofn_lt (by omega) (by omega)).mp c_49) (by omega)
  | succ j ih =>
    intro i b mo d r h' m hj hP hc hM H
    have hc5 := hg.1
    replace H := i_il (q := 45) H I_X8_trade_43 rfl rfl
    replace H := i_aln (q := 46) H I_X8_trade_45 rfl rfl
    replace H := i_gfi (q := 49) H I_X8_trade_46 G_8_131 cn_X8_trade LY_71 rfl rfl
    have W := i_ic_ge (t := 148) (q := 52) H I_X8_trade_49 (by decide) rfl
    clear H
    rcases W with ⟨c_49, H⟩ | ⟨c_49, H⟩
    · exfalso
      rw [hc] at c_49
      exact c_49 ((zofn_lt (by omega) (by omega)).mpr (by omega))
    · skip
      replace H := i_aln (q := 53) H I_X8_trade_52 rfl rfl
      replace H := i_icst (x := 0) (q := 54) H I_X8_trade_53 (by decide) rfl
      replace H := i_bip (x := 108) (q := 56) H I_X8_trade_54 (by decide) rfl
      have W := i_cv2 1 (q := 59) H I_X8_trade_56 K_8_188 Zm_147 rfl rfl
      clear H
      obtain ⟨r1, h1, Hc, K1, K2⟩ := W
      obtain ⟨M_56, e1, e2, F_56⟩ := t_X8_copies (f := 0) (t := 108) rfl rfl (by omega) (by omega) (by omega) Hc
      have H := K2 _ e1 e2
      clear e1 e2 Hc K1 K2
      replace H := i_aln (q := 60) H I_X8_trade_59 rfl rfl
      replace H := i_gfr (q := 63) H I_X8_trade_60 G_8_7 cn_X8_trade LY_71 rfl rfl
      replace H := i_aln (q := 64) H I_X8_trade_63 rfl rfl
      replace H := i_bip (x := 108) (q := 66) H I_X8_trade_64 (by decide) rfl
      replace H := i_il (q := 68) H I_X8_trade_66 rfl rfl
      have W := i_cv2 0 (q := 71) H I_X8_trade_68 K_8_137 Zm_128 rfl rfl
      clear H
      obtain ⟨r1, h1, Hc, K1, K2⟩ := W
      have y1 := gat_k (g := g) (p := p) (by omega)
      obtain ⟨e1, e2⟩ := t_X8_countAt (pg := 108) (i := p) (PG_cp hP F_56) (by omega) Hc
      have H := K1 _ _ e1 e2
      clear e1 e2 Hc K1 K2
      replace H := i_aln (q := 72) H I_X8_trade_71 rfl rfl
      replace H := i_icst (x := 0) (q := 73) H I_X8_trade_72 (by decide) rfl
      replace H := i_il (q := 75) H I_X8_trade_73 rfl rfl
      have W := i_cv2 0 (q := 78) H I_X8_trade_75 K_8_141 Zm_129 rfl rfl
      clear H
      obtain ⟨r1, h1, Hc, K1, K2⟩ := W
      obtain ⟨e1, e2⟩ := t_X8_countOf (pg := 0) (i := i) (g := g) ⟨hP.1, fun j hj => (F_56.2 72 (0 + j) (by omega)).trans (hP.2 j hj)⟩ (by omega) Hc
      have H := K1 _ _ e1 e2
      clear e1 e2 Hc K1 K2
      have W := i_iast (q := 79) H I_X8_trade_78 LY_72 rfl
      clear H
      obtain ⟨i_78, bi_78, ei_78, H⟩ := W
      replace H := i_aln (q := 80) H I_X8_trade_79 rfl rfl
      replace H := i_gfr (q := 83) H I_X8_trade_80 G_8_7 cn_X8_trade LY_71 rfl rfl
      replace H := i_aln (q := 84) H I_X8_trade_83 rfl rfl
      replace H := i_bip (x := 108) (q := 86) H I_X8_trade_84 (by decide) rfl
      replace H := i_il (q := 88) H I_X8_trade_86 rfl rfl
      have W := i_cv2 0 (q := 91) H I_X8_trade_88 K_8_137 Zm_128 rfl rfl
      clear H
      obtain ⟨r1, h1, Hc, K1, K2⟩ := W
      have e78 : 108 + gat g p = i_78 := zofn ei_78 (by omega) (by omega)
      subst e78
      have y2 := gat_k (g := gset g (gat g p) (gcn g i)) (p := i) (by omega)
      obtain ⟨e1, e2⟩ := t_X8_countAt (pg := 108) (i := i) (PG_up (PG_cp hP F_56) (by omega)) (by omega) Hc
      have H := K1 _ _ e1 e2
      clear e1 e2 Hc K1 K2
      replace H := i_aln (q := 92) H I_X8_trade_91 rfl rfl
      replace H := i_icst (x := 0) (q := 93) H I_X8_trade_92 (by decide) rfl
      replace H := i_il (q := 95) H I_X8_trade_93 rfl rfl
      have W := i_cv2 0 (q := 98) H I_X8_trade_95 K_8_141 Zm_129 rfl rfl
      clear H
      obtain ⟨r1, h1, Hc, K1, K2⟩ := W
      obtain ⟨e1, e2⟩ := t_X8_countOf (pg := 0) (i := p) (g := g) ⟨hP.1, fun j hj => (zup_n (by omega)).trans ((F_56.2 72 (0 + j) (by omega)).trans (hP.2 j hj))⟩ (by omega) Hc
      have H := K1 _ _ e1 e2
      clear e1 e2 Hc K1 K2
      have W := i_iast (q := 99) H I_X8_trade_98 LY_72 rfl
      clear H
      obtain ⟨i_98, bi_98, ei_98, H⟩ := W
      replace H := i_aln (q := 100) H I_X8_trade_99 rfl rfl
      replace H := i_icst (x := 0) (q := 101) H I_X8_trade_100 (by decide) rfl
      have W := i_cv1 2 (q := 104) H I_X8_trade_101 K_8_192 Zm_148 rfl rfl
      clear H
      obtain ⟨r1, h1, Hc, K1, K2⟩ := W
      have e98 : 108 + gat (gset g (gat g p) (gcn g i)) i = i_98 := zofn ei_98 (by omega) (by omega)
      subst e98
      obtain ⟨M_101, e1, e2, F_101⟩ := t_goes0 (g := gTd g p i) (PG_up (PG_up (PG_cp hP F_56) (by omega)) (by omega)) (gok_td hg (by omega) (by omega)) ((gTd_k (by omega) (by omega) (by omega)).trans ha) ha8 (gpl_td hpl (by omega) (by omega)) (((zup_n (by omega)).trans ((zup_n (by omega)).trans (F_56.2 71 2 (by omega)))).trans hc) (zMk_f hM (fun b => ((zup_n (by omega)).trans ((zup_n (by omega)).trans (F_56.2 73 b (by omega)))))) Hc
      have H := K2 _ e1 e2
      clear e1 e2 Hc K1 K2
      replace H := i_aln (q := 105) H I_X8_trade_104 rfl rfl
      replace H := i_gfi (q := 108) H I_X8_trade_105 G_8_179 cn_X8_trade LY_71 rfl rfl
      replace H := i_iln (q := 109) H I_X8_trade_108 rfl rfl
      have W := i_ic_le (t := 123) (q := 112) H I_X8_trade_109 (by decide) rfl
      clear H
      rcases W with ⟨c_109, H⟩ | ⟨c_109, H⟩
      · skip
        replace H := i_iln (q := 124) H I_X8_trade_123 rfl rfl
        replace H := i_isn (q := 125) H I_X8_trade_124 rfl rfl
        replace H := i_aln (q := 126) H I_X8_trade_125 rfl rfl
        replace H := i_gfi (q := 129) H I_X8_trade_126 G_8_179 cn_X8_trade LY_71 rfl rfl
        replace H := i_iln (q := 130) H I_X8_trade_129 rfl rfl
        have W := i_ic_le (t := 140) (q := 133) H I_X8_trade_130 (by decide) rfl
        clear H
        rcases W with ⟨c_130, H⟩ | ⟨c_130, H⟩
        · skip
          replace H := i_iln (q := 141) H I_X8_trade_140 rfl rfl
          replace H := i_isn (q := 142) H I_X8_trade_141 rfl rfl
          replace H := i_inc (q := 145) H I_X8_trade_142 rfl rfl rfl
          replace H := i_goto (q := 43) H I_X8_trade_145 (by decide)
          obtain ⟨P1, P2, P3, P4, P5⟩ := F_101.1
          rw [P2] at c_109
          have c109 : ¬ mo < gTf c g p i := c_109
          replace H : zE none d zm_X8_trade 43 [.ref 71, .int w, .int mo, .int b, .int (Int32.ofNat p), .int (Int32.ofNat (i + 1))] [] M_101 r h' := by
            rw [← zofn_s]
            exact H
          rw [gBs, if_neg c109]
          exact ih (i + 1) b mo d r h' M_101 (by omega) ⟨hP.1, fun j hj => ((F_101.2 72 (0 + j) (by omega) (by omega) (by omega)).trans ((zup_n (by omega)).trans ((zup_n (by omega)).trans (F_56.2 72 (0 + j) (by omega))))).trans (hP.2 j hj)⟩ (((F_101.2 71 2 (by omega) (by omega) (by omega)).trans ((zup_n (by omega)).trans ((zup_n (by omega)).trans (F_56.2 71 2 (by omega))))).trans hc) (zMk_f hM (fun b => (F_101.2 73 b (by omega) (by omega) (by omega)).trans ((zup_n (by omega)).trans ((zup_n (by omega)).trans (F_56.2 73 b (by omega)))))) H
        · skip
          replace H := i_aln (q := 134) H I_X8_trade_133 rfl rfl
          replace H := i_gfi (q := 137) H I_X8_trade_134 G_8_179 cn_X8_trade LY_71 rfl rfl
          replace H := i_goto (q := 141) H I_X8_trade_137 (by decide)
          replace H := i_isn (q := 142) H I_X8_trade_141 rfl rfl
          replace H := i_inc (q := 145) H I_X8_trade_142 rfl rfl rfl
          replace H := i_goto (q := 43) H I_X8_trade_145 (by decide)
          exact absurd c_130 c_109
      · skip
        replace H := i_bip (x := 10) (q := 114) H I_X8_trade_112 (by decide) rfl
        replace H := i_il (q := 116) H I_X8_trade_114 rfl rfl
        replace H := i_imul (q := 117) H I_X8_trade_116 rfl
        replace H := i_il (q := 119) H I_X8_trade_117 rfl rfl
        replace H := i_iadd (q := 120) H I_X8_trade_119 rfl
        replace H := i_goto (q := 124) H I_X8_trade_120 (by decide)
        replace H := i_isn (q := 125) H I_X8_trade_124 rfl rfl
        replace H := i_aln (q := 126) H I_X8_trade_125 rfl rfl
        replace H := i_gfi (q := 129) H I_X8_trade_126 G_8_179 cn_X8_trade LY_71 rfl rfl
        replace H := i_iln (q := 130) H I_X8_trade_129 rfl rfl
        have W := i_ic_le (t := 140) (q := 133) H I_X8_trade_130 (by decide) rfl
        clear H
        rcases W with ⟨c_130, H⟩ | ⟨c_130, H⟩
        · skip
          replace H := i_iln (q := 141) H I_X8_trade_140 rfl rfl
          replace H := i_isn (q := 142) H I_X8_trade_141 rfl rfl
          replace H := i_inc (q := 145) H I_X8_trade_142 rfl rfl rfl
          replace H := i_goto (q := 43) H I_X8_trade_145 (by decide)
          exact absurd c_109 c_130
        · skip
          replace H := i_aln (q := 134) H I_X8_trade_133 rfl rfl
          replace H := i_gfi (q := 137) H I_X8_trade_134 G_8_179 cn_X8_trade LY_71 rfl rfl
          replace H := i_goto (q := 141) H I_X8_trade_137 (by decide)
          replace H := i_isn (q := 142) H I_X8_trade_141 rfl rfl
          replace H := i_inc (q := 145) H I_X8_trade_142 rfl rfl rfl
          replace H := i_goto (q := 43) H I_X8_trade_145 (by decide)
          obtain ⟨P1, P2, P3, P4, P5⟩ := F_101.1
          rw [P2] at c_109
          have c109 :  mo < gTf c g p i := c_109
          replace H : zE none d zm_X8_trade 43 [.ref 71, .int w, .int (gTf c g p i), .int (gTx p i), .int (Int32.ofNat p), .int (Int32.ofNat (i + 1))] [] M_101 r h' := by
            rw [← zofn_s]
            rw [P2] at H
            exact H
          rw [gBs, if_pos c109]
          exact ih (i + 1) (gTx p i) (gTf c g p i) d r h' M_101 (by omega) ⟨hP.1, fun j hj => ((F_101.2 72 (0 + j) (by omega) (by omega) (by omega)).trans ((zup_n (by omega)).trans ((zup_n (by omega)).trans (F_56.2 72 (0 + j) (by omega))))).trans (hP.2 j hj)⟩ (((F_101.2 71 2 (by omega) (by omega) (by omega)).trans ((zup_n (by omega)).trans ((zup_n (by omega)).trans (F_56.2 71 2 (by omega))))).trans hc) (zMk_f hM (fun b => (F_101.2 73 b (by omega) (by omega) (by omega)).trans ((zup_n (by omega)).trans ((zup_n (by omega)).trans (F_56.2 73 b (by omega)))))) H
theorem to_8 {c a : Nat} {g : Nat → Int32} (hg : gok g c) (hpl : gpl g) (ha : g 26 = Int32.ofNat a) (ha8 : a ≤ 8) {w : Int32} : ∀ (j i : Nat) (x : Int32 × Int32) (d : Nat) (r : Option Value) (h' : zHp) (m : zM), i + j = c → PG m 0 g → m 71 2 = Int32.ofNat c → zMk m → zE none d zm_X8_trade 28 [.ref 71, .int w, .int x.2, .int x.1, .int (Int32.ofNat i), .null] [] m r h' → r = some (.int (gW2 w (gT2 c g j i x))) := by
  intro j
  induction j with
  | zero =>
    intro i x d r h' m hj hP hc hM H
    have hc5 := hg.1
    replace H := i_il (q := 30) H I_X8_trade_28 rfl rfl
    replace H := i_aln (q := 31) H I_X8_trade_30 rfl rfl
    replace H := i_gfi (q := 34) H I_X8_trade_31 G_8_131 cn_X8_trade LY_71 rfl rfl
    have W := i_ic_ge (t := 154) (q := 37) H I_X8_trade_34 (by decide) rfl
    clear H
    rcases W with ⟨c_34, H⟩ | ⟨c_34, H⟩
    · skip
      replace H := i_iln (q := 155) H I_X8_trade_154 rfl rfl
      replace H := i_bip (x := (-4)) (q := 157) H I_X8_trade_155 (by decide) rfl
      have W := i_ic_eq (t := 164) (q := 160) H I_X8_trade_157 (by decide) rfl
      clear H
      rcases W with ⟨c_157, H⟩ | ⟨c_157, H⟩
      · skip
        replace H := i_iln (q := 165) H I_X8_trade_164 rfl rfl
        replace H := i_goto (q := 169) H I_X8_trade_165 (by decide)
        obtain ⟨hr, hh⟩ := i_ir H I_X8_trade_169
        exact hr.trans (by rw [gT2, gW2_1 c_157])
      · skip
        replace H := i_iln (q := 161) H I_X8_trade_160 rfl rfl
        have W := i_if_ne (t := 168) (q := 164) H I_X8_trade_161 (by decide) rfl
        clear H
        rcases W with ⟨c_161, H⟩ | ⟨c_161, H⟩
        · skip
          replace H := i_iln (q := 169) H I_X8_trade_168 rfl rfl
          obtain ⟨hr, hh⟩ := i_ir H I_X8_trade_169
          exact hr.trans (by rw [gT2, gW2_2 c_161 c_157])
        · skip
          replace H := i_iln (q := 165) H I_X8_trade_164 rfl rfl
          replace H := i_goto (q := 169) H I_X8_trade_165 (by decide)
          obtain ⟨hr, hh⟩ := i_ir H I_X8_trade_169
          exact hr.trans (by rw [gT2, gW2_0 c_161])
    · exfalso
      rw [hc] at c_34
      exact absurd ((zofn_lt (by omega) (by omega)).mp c_34) (by omega)
  | succ j ih =>
    intro i x d r h' m hj hP hc hM H
    have hc5 := hg.1
    replace H := i_il (q := 30) H I_X8_trade_28 rfl rfl
    replace H := i_aln (q := 31) H I_X8_trade_30 rfl rfl
    replace H := i_gfi (q := 34) H I_X8_trade_31 G_8_131 cn_X8_trade LY_71 rfl rfl
    have W := i_ic_ge (t := 154) (q := 37) H I_X8_trade_34 (by decide) rfl
    clear H
    rcases W with ⟨c_34, H⟩ | ⟨c_34, H⟩
    · exfalso
      rw [hc] at c_34
      exact c_34 ((zofn_lt (by omega) (by omega)).mpr (by omega))
    · skip
      replace H := i_il (q := 39) H I_X8_trade_37 rfl rfl
      replace H := i_icst (x := 1) (q := 40) H I_X8_trade_39 (by decide) rfl
      replace H := i_iadd (q := 41) H I_X8_trade_40 rfl
      replace H := i_is (q := 43) H I_X8_trade_41 rfl rfl
      replace H : zE none d zm_X8_trade 43 [.ref 71, .int w, .int x.2, .int x.1, .int (Int32.ofNat i), .int (Int32.ofNat (i + 1))] [] m r h' := by
        rw [← zofn_s (i := i)]
        exact H
      obtain ⟨m1, k1, k2, k3, k4⟩ := tr_8 hg hpl ha ha8 (p := i) (by omega) (c - (i + 1)) (i + 1) x.1 x.2 d r h' m (by omega) hP hc hM H
      rw [gT2]
      exact ih (i + 1) _ d r h' m1 (by omega) k1 k2 k3 k4
theorem t_X8_trade {d : Nat} {m : zM} {r : Option Value} {h' : zHp} {w : Int32} {c a : Nat} {g : Nat → Int32} (hP : PG m 0 g) (hg : gok g c) (hpl : gpl g) (ha : g 26 = Int32.ofNat a) (ha8 : a ≤ 8) (hc : m 71 2 = Int32.ofNat c) (hM : zMk m) (H : zE none d zm_X8_trade 0 [.ref 71, .int w, .null, .null, .null, .null] [] m r h') : r = some (.int (gTrade c g w)) := by
  replace H := i_iln (q := 1) H I_X8_trade_0 rfl rfl
  replace H := i_i2l (q := 2) H I_X8_trade_1 rfl
  replace H := i_lcst (x := 0) (q := 3) H I_X8_trade_2 (by decide) rfl
  replace H := i_lcst (x := 1) (q := 4) H I_X8_trade_3 (by decide) rfl
  replace H := i_in (q := 7) H I_X8_trade_4 K_8_55 rfl
  have W := i_if_ne (t := 12) (q := 10) H I_X8_trade_7 (by decide) rfl
  clear H
  rcases W with ⟨c_7, H⟩ | ⟨c_7, H⟩
  · skip
    replace H := i_aln (q := 13) H I_X8_trade_12 rfl rfl
    replace H := i_icst (x := 0) (q := 14) H I_X8_trade_13 (by decide) rfl
    have W := i_cv1 0 (q := 17) H I_X8_trade_14 K_8_195 Zm_149 rfl rfl
    clear H
    obtain ⟨r1, h1, Hc, K1, K2⟩ := W
    obtain ⟨M_14, e1, e2, F_14⟩ := t_X8_tries hP hg hpl ha ha8 hc hM Hc
    have H := K2 _ e1 e2
    clear e1 e2 Hc K1 K2
    replace H := i_aln (q := 18) H I_X8_trade_17 rfl rfl
    replace H := i_gfi (q := 21) H I_X8_trade_18 G_8_179 cn_X8_trade LY_71 rfl rfl
    replace H := i_isn (q := 22) H I_X8_trade_21 rfl rfl
    replace H := i_bip (x := (-4)) (q := 24) H I_X8_trade_22 (by decide) rfl
    replace H := i_isn (q := 25) H I_X8_trade_24 rfl rfl
    replace H := i_icst (x := 0) (q := 26) H I_X8_trade_25 (by decide) rfl
    replace H := i_is (q := 28) H I_X8_trade_26 rfl rfl
    rw [zin_bt (lo := 0) (hi := 1) rfl rfl] at c_7
    obtain ⟨P1, P2, P3, P4, P5⟩ := F_14.1
    rw [P2] at H
    rw [gTrade, if_pos (zif1 c_7)]
    exact to_8 hg hpl ha ha8 c 0 (-4, (gPl c g).2.1) d r h' M_14 (by omega) ⟨hP.1, fun j hj => (F_14.2 72 (0 + j) (by omega) (by omega) (by omega)).trans (hP.2 j hj)⟩ ((F_14.2 71 2 (by omega) (by omega) (by omega)).trans hc) (zMk_f hM (fun b => F_14.2 73 b (by omega) (by omega) (by omega))) H
  · skip
    replace H := i_icst (x := (-1)) (q := 11) H I_X8_trade_10 (by decide) rfl
    obtain ⟨hr, hh⟩ := i_ir H I_X8_trade_11
    rw [zin_bt (lo := 0) (hi := 1) rfl rfl] at c_7
    exact hr.trans (by rw [gTrade, if_neg (zif0 c_7)])
theorem pd_trade {m : zM} {r : Option Value} {h' : zHp} {x0 : Int32} (ht : zTy m) (hR : RF m) (H : zEv none 19 zm_X7_trade (0, lv_args 0 [.ref 0, .int x0], [], zhp m) r h') : ∃ m1 v, r = some (.int v) ∧ h' = zhp m1 ∧ zTy m1 ∧ ∀ r2 h2, zEv none 19 zm_X8_trade (0, lv_args 0 [.ref 71, .int x0], [], zhp m1) r2 h2 → ∃ m2 v2, r2 = some (.int v2) ∧ h2 = zhp m2 ∧ zTy m2 ∧ RF m2 ∧ v = v2 := by
  have hR0 := hR
  obtain ⟨⟨_, hM, _, _, c, c1, ⟨hL, hb⟩, _⟩, _⟩ := hR
  have hg := gok_11 ht hL
  have hpl := gpl_0 ht
  obtain ⟨a, a6, a7, _⟩ := hL.2.2.2.2.2
  obtain ⟨m1, v, a1, a2, a3, a4⟩ := e_X7_trade ht H
  refine ⟨m1, v, a1, a2, a3, fun r2 h2 H2 => ?_⟩
  obtain ⟨m2, v2, b1, b2, b3, b4⟩ := e_X8_trade a3 H2
  refine ⟨m2, v2, b1, b2, b3, RF_f (RF_f hR0 a4 (by decide +kernel)) b4 (by decide +kernel), ?_⟩
  have hP1 : PG m1 0 (pgf m 0) := ⟨by omega, fun j hj => a4 72 (0 + j) (zpl_r LY_72 (by omega)) (ymd_c (by decide +kernel) _)⟩
  have hM1 : zMk m1 := ⟨(a4 73 0 ⟨_, LY_73, rfl⟩ (by decide +kernel)).trans hM.1, (a4 73 1 ⟨_, LY_73, rfl⟩ (by decide +kernel)).trans hM.2.1, (a4 73 2 ⟨_, LY_73, rfl⟩ (by decide +kernel)).trans hM.2.2.1, (a4 73 3 ⟨_, LY_73, rfl⟩ (by decide +kernel)).trans hM.2.2.2⟩
  have hc1 : m1 71 2 = Int32.ofNat c := (a4 71 2 ⟨_, LY_71, rfl⟩ (by decide +kernel)).trans c1
  have k1 := t_X7_trade hL hg (zE_of 5 rfl H)
  have k2 := t_X8_trade hP1 hg hpl a7 a6 hc1 hM1 (zE_of 4 rfl H2)
  rw [a1] at k1
  rw [b1] at k2
  cases k1
  cases k2
  rfl
end
section
/-! drift -/
theorem It_X7_drift : zm_X7_drift.2.2.2.2.2 = zt_X7_drift := by
  unfold zm_X7_drift
  rfl
theorem It_X8_drift : zm_X8_drift.2.2.2.2.2 = zt_X8_drift := by
  unfold zm_X8_drift
  rfl
theorem I_X7_drift_0 : zin zm_X7_drift.2.2.2.2.2 0 = some (.iload_n 2, 1) := by rw [It_X7_drift]; rfl
theorem I_X7_drift_1 : zin zm_X7_drift.2.2.2.2.2 1 = some (.iconst 1, 1) := by rw [It_X7_drift]; rfl
theorem I_X7_drift_2 : zin zm_X7_drift.2.2.2.2.2 2 = some (.if_icmp .lt 18, 3) := by rw [It_X7_drift]; rfl
theorem I_X7_drift_5 : zin zm_X7_drift.2.2.2.2.2 5 = some (.iload_n 2, 1) := by rw [It_X7_drift]; rfl
theorem I_X7_drift_6 : zin zm_X7_drift.2.2.2.2.2 6 = some (.bipush 60, 2) := by rw [It_X7_drift]; rfl
theorem I_X7_drift_8 : zin zm_X7_drift.2.2.2.2.2 8 = some (.if_icmp .gt 12, 3) := by rw [It_X7_drift]; rfl
theorem I_X7_drift_11 : zin zm_X7_drift.2.2.2.2.2 11 = some (.iload_n 3, 1) := by rw [It_X7_drift]; rfl
theorem I_X7_drift_12 : zin zm_X7_drift.2.2.2.2.2 12 = some (.ifCond .lt 8, 3) := by rw [It_X7_drift]; rfl
theorem I_X7_drift_15 : zin zm_X7_drift.2.2.2.2.2 15 = some (.iload_n 3, 1) := by rw [It_X7_drift]; rfl
theorem I_X7_drift_16 : zin zm_X7_drift.2.2.2.2.2 16 = some (.iconst 1, 1) := by rw [It_X7_drift]; rfl
theorem I_X7_drift_17 : zin zm_X7_drift.2.2.2.2.2 17 = some (.if_icmp .le 5, 3) := by rw [It_X7_drift]; rfl
theorem I_X7_drift_20 : zin zm_X7_drift.2.2.2.2.2 20 = some (.iconst (-1), 1) := by rw [It_X7_drift]; rfl
theorem I_X7_drift_21 : zin zm_X7_drift.2.2.2.2.2 21 = some (.ireturn, 1) := by rw [It_X7_drift]; rfl
theorem I_X7_drift_22 : zin zm_X7_drift.2.2.2.2.2 22 = some (.iconst 1, 1) := by rw [It_X7_drift]; rfl
theorem I_X7_drift_23 : zin zm_X7_drift.2.2.2.2.2 23 = some (.aload_n 0, 1) := by rw [It_X7_drift]; rfl
theorem I_X7_drift_24 : zin zm_X7_drift.2.2.2.2.2 24 = some (.getfield 19, 3) := by rw [It_X7_drift]; rfl
theorem I_X7_drift_27 : zin zm_X7_drift.2.2.2.2.2 27 = some (.getfield 90, 3) := by rw [It_X7_drift]; rfl
theorem I_X7_drift_30 : zin zm_X7_drift.2.2.2.2.2 30 = some (.ishl, 1) := by rw [It_X7_drift]; rfl
theorem I_X7_drift_31 : zin zm_X7_drift.2.2.2.2.2 31 = some (.iconst 1, 1) := by rw [It_X7_drift]; rfl
theorem I_X7_drift_32 : zin zm_X7_drift.2.2.2.2.2 32 = some (.isub, 1) := by rw [It_X7_drift]; rfl
theorem I_X7_drift_33 : zin zm_X7_drift.2.2.2.2.2 33 = some (.istore 4, 2) := by rw [It_X7_drift]; rfl
theorem I_X7_drift_35 : zin zm_X7_drift.2.2.2.2.2 35 = some (.iload 4, 2) := by rw [It_X7_drift]; rfl
theorem I_X7_drift_37 : zin zm_X7_drift.2.2.2.2.2 37 = some (.ifCond .gt 6, 3) := by rw [It_X7_drift]; rfl
theorem I_X7_drift_40 : zin zm_X7_drift.2.2.2.2.2 40 = some (.bipush (-2), 2) := by rw [It_X7_drift]; rfl
theorem I_X7_drift_42 : zin zm_X7_drift.2.2.2.2.2 42 = some (.ireturn, 1) := by rw [It_X7_drift]; rfl
theorem I_X7_drift_43 : zin zm_X7_drift.2.2.2.2.2 43 = some (.aload_n 0, 1) := by rw [It_X7_drift]; rfl
theorem I_X7_drift_44 : zin zm_X7_drift.2.2.2.2.2 44 = some (.getfield 26, 3) := by rw [It_X7_drift]; rfl
theorem I_X7_drift_47 : zin zm_X7_drift.2.2.2.2.2 47 = some (.getfield 173, 3) := by rw [It_X7_drift]; rfl
theorem I_X7_drift_50 : zin zm_X7_drift.2.2.2.2.2 50 = some (.astore 5, 2) := by rw [It_X7_drift]; rfl
theorem I_X7_drift_52 : zin zm_X7_drift.2.2.2.2.2 52 = some (.aload 5, 2) := by rw [It_X7_drift]; rfl
theorem I_X7_drift_54 : zin zm_X7_drift.2.2.2.2.2 54 = some (.aload_n 0, 1) := by rw [It_X7_drift]; rfl
theorem I_X7_drift_55 : zin zm_X7_drift.2.2.2.2.2 55 = some (.getfield 19, 3) := by rw [It_X7_drift]; rfl
theorem I_X7_drift_58 : zin zm_X7_drift.2.2.2.2.2 58 = some (.invokevirtual 77, 3) := by rw [It_X7_drift]; rfl
theorem I_X7_drift_61 : zin zm_X7_drift.2.2.2.2.2 61 = some (.iload_n 1, 1) := by rw [It_X7_drift]; rfl
theorem I_X7_drift_62 : zin zm_X7_drift.2.2.2.2.2 62 = some (.istore 6, 2) := by rw [It_X7_drift]; rfl
theorem I_X7_drift_64 : zin zm_X7_drift.2.2.2.2.2 64 = some (.iconst 0, 1) := by rw [It_X7_drift]; rfl
theorem I_X7_drift_65 : zin zm_X7_drift.2.2.2.2.2 65 = some (.istore 7, 2) := by rw [It_X7_drift]; rfl
theorem I_X7_drift_67 : zin zm_X7_drift.2.2.2.2.2 67 = some (.iconst 0, 1) := by rw [It_X7_drift]; rfl
theorem I_X7_drift_68 : zin zm_X7_drift.2.2.2.2.2 68 = some (.istore 8, 2) := by rw [It_X7_drift]; rfl
theorem I_X7_drift_70 : zin zm_X7_drift.2.2.2.2.2 70 = some (.iload 8, 2) := by rw [It_X7_drift]; rfl
theorem I_X7_drift_72 : zin zm_X7_drift.2.2.2.2.2 72 = some (.iload_n 2, 1) := by rw [It_X7_drift]; rfl
theorem I_X7_drift_73 : zin zm_X7_drift.2.2.2.2.2 73 = some (.if_icmp .ge 52, 3) := by rw [It_X7_drift]; rfl
theorem I_X7_drift_76 : zin zm_X7_drift.2.2.2.2.2 76 = some (.iload 6, 2) := by rw [It_X7_drift]; rfl
theorem I_X7_drift_78 : zin zm_X7_drift.2.2.2.2.2 78 = some (.ldc_w 260, 3) := by rw [It_X7_drift]; rfl
theorem I_X7_drift_81 : zin zm_X7_drift.2.2.2.2.2 81 = some (.imul, 1) := by rw [It_X7_drift]; rfl
theorem I_X7_drift_82 : zin zm_X7_drift.2.2.2.2.2 82 = some (.sipush 12345, 3) := by rw [It_X7_drift]; rfl
theorem I_X7_drift_85 : zin zm_X7_drift.2.2.2.2.2 85 = some (.iadd, 1) := by rw [It_X7_drift]; rfl
theorem I_X7_drift_86 : zin zm_X7_drift.2.2.2.2.2 86 = some (.istore 6, 2) := by rw [It_X7_drift]; rfl
theorem I_X7_drift_88 : zin zm_X7_drift.2.2.2.2.2 88 = some (.iload 6, 2) := by rw [It_X7_drift]; rfl
theorem I_X7_drift_90 : zin zm_X7_drift.2.2.2.2.2 90 = some (.bipush 16, 2) := by rw [It_X7_drift]; rfl
theorem I_X7_drift_92 : zin zm_X7_drift.2.2.2.2.2 92 = some (.ishr, 1) := by rw [It_X7_drift]; rfl
theorem I_X7_drift_93 : zin zm_X7_drift.2.2.2.2.2 93 = some (.sipush 32767, 3) := by rw [It_X7_drift]; rfl
theorem I_X7_drift_96 : zin zm_X7_drift.2.2.2.2.2 96 = some (.iand, 1) := by rw [It_X7_drift]; rfl
theorem I_X7_drift_97 : zin zm_X7_drift.2.2.2.2.2 97 = some (.iload 4, 2) := by rw [It_X7_drift]; rfl
theorem I_X7_drift_99 : zin zm_X7_drift.2.2.2.2.2 99 = some (.irem, 1) := by rw [It_X7_drift]; rfl
theorem I_X7_drift_100 : zin zm_X7_drift.2.2.2.2.2 100 = some (.iconst 1, 1) := by rw [It_X7_drift]; rfl
theorem I_X7_drift_101 : zin zm_X7_drift.2.2.2.2.2 101 = some (.iadd, 1) := by rw [It_X7_drift]; rfl
theorem I_X7_drift_102 : zin zm_X7_drift.2.2.2.2.2 102 = some (.istore 9, 2) := by rw [It_X7_drift]; rfl
theorem I_X7_drift_104 : zin zm_X7_drift.2.2.2.2.2 104 = some (.aload 5, 2) := by rw [It_X7_drift]; rfl
theorem I_X7_drift_106 : zin zm_X7_drift.2.2.2.2.2 106 = some (.iload 9, 2) := by rw [It_X7_drift]; rfl
theorem I_X7_drift_108 : zin zm_X7_drift.2.2.2.2.2 108 = some (.invokevirtual 155, 3) := by rw [It_X7_drift]; rfl
theorem I_X7_drift_111 : zin zm_X7_drift.2.2.2.2.2 111 = some (.bipush (-4), 2) := by rw [It_X7_drift]; rfl
theorem I_X7_drift_113 : zin zm_X7_drift.2.2.2.2.2 113 = some (.if_icmp .eq 6, 3) := by rw [It_X7_drift]; rfl
theorem I_X7_drift_116 : zin zm_X7_drift.2.2.2.2.2 116 = some (.iinc 7 1, 3) := by rw [It_X7_drift]; rfl
theorem I_X7_drift_119 : zin zm_X7_drift.2.2.2.2.2 119 = some (.iinc 8 1, 3) := by rw [It_X7_drift]; rfl
theorem I_X7_drift_122 : zin zm_X7_drift.2.2.2.2.2 122 = some (.goto (-52), 3) := by rw [It_X7_drift]; rfl
theorem I_X7_drift_125 : zin zm_X7_drift.2.2.2.2.2 125 = some (.iload_n 3, 1) := by rw [It_X7_drift]; rfl
theorem I_X7_drift_126 : zin zm_X7_drift.2.2.2.2.2 126 = some (.ifCond .ne 8, 3) := by rw [It_X7_drift]; rfl
theorem I_X7_drift_129 : zin zm_X7_drift.2.2.2.2.2 129 = some (.iload 7, 2) := by rw [It_X7_drift]; rfl
theorem I_X7_drift_131 : zin zm_X7_drift.2.2.2.2.2 131 = some (.goto 8, 3) := by rw [It_X7_drift]; rfl
theorem I_X7_drift_134 : zin zm_X7_drift.2.2.2.2.2 134 = some (.aload 5, 2) := by rw [It_X7_drift]; rfl
theorem I_X7_drift_136 : zin zm_X7_drift.2.2.2.2.2 136 = some (.invokevirtual 176, 3) := by rw [It_X7_drift]; rfl
theorem I_X7_drift_139 : zin zm_X7_drift.2.2.2.2.2 139 = some (.ireturn, 1) := by rw [It_X7_drift]; rfl
theorem I_X8_drift_0 : zin zm_X8_drift.2.2.2.2.2 0 = some (.iload_n 2, 1) := by rw [It_X8_drift]; rfl
theorem I_X8_drift_1 : zin zm_X8_drift.2.2.2.2.2 1 = some (.i2l, 1) := by rw [It_X8_drift]; rfl
theorem I_X8_drift_2 : zin zm_X8_drift.2.2.2.2.2 2 = some (.lconst 1, 1) := by rw [It_X8_drift]; rfl
theorem I_X8_drift_3 : zin zm_X8_drift.2.2.2.2.2 3 = some (.ldc2_w 239, 3) := by rw [It_X8_drift]; rfl
theorem I_X8_drift_6 : zin zm_X8_drift.2.2.2.2.2 6 = some (.invokestatic 55, 3) := by rw [It_X8_drift]; rfl
theorem I_X8_drift_9 : zin zm_X8_drift.2.2.2.2.2 9 = some (.ifCond .eq 13, 3) := by rw [It_X8_drift]; rfl
theorem I_X8_drift_12 : zin zm_X8_drift.2.2.2.2.2 12 = some (.iload_n 3, 1) := by rw [It_X8_drift]; rfl
theorem I_X8_drift_13 : zin zm_X8_drift.2.2.2.2.2 13 = some (.i2l, 1) := by rw [It_X8_drift]; rfl
theorem I_X8_drift_14 : zin zm_X8_drift.2.2.2.2.2 14 = some (.lconst 0, 1) := by rw [It_X8_drift]; rfl
theorem I_X8_drift_15 : zin zm_X8_drift.2.2.2.2.2 15 = some (.lconst 1, 1) := by rw [It_X8_drift]; rfl
theorem I_X8_drift_16 : zin zm_X8_drift.2.2.2.2.2 16 = some (.invokestatic 55, 3) := by rw [It_X8_drift]; rfl
theorem I_X8_drift_19 : zin zm_X8_drift.2.2.2.2.2 19 = some (.ifCond .ne 5, 3) := by rw [It_X8_drift]; rfl
theorem I_X8_drift_22 : zin zm_X8_drift.2.2.2.2.2 22 = some (.iconst (-1), 1) := by rw [It_X8_drift]; rfl
theorem I_X8_drift_23 : zin zm_X8_drift.2.2.2.2.2 23 = some (.ireturn, 1) := by rw [It_X8_drift]; rfl
theorem I_X8_drift_24 : zin zm_X8_drift.2.2.2.2.2 24 = some (.aload_n 0, 1) := by rw [It_X8_drift]; rfl
theorem I_X8_drift_25 : zin zm_X8_drift.2.2.2.2.2 25 = some (.getfield 131, 3) := by rw [It_X8_drift]; rfl
theorem I_X8_drift_28 : zin zm_X8_drift.2.2.2.2.2 28 = some (.ifCond .ne 6, 3) := by rw [It_X8_drift]; rfl
theorem I_X8_drift_31 : zin zm_X8_drift.2.2.2.2.2 31 = some (.bipush (-2), 2) := by rw [It_X8_drift]; rfl
theorem I_X8_drift_33 : zin zm_X8_drift.2.2.2.2.2 33 = some (.ireturn, 1) := by rw [It_X8_drift]; rfl
theorem I_X8_drift_34 : zin zm_X8_drift.2.2.2.2.2 34 = some (.aload_n 0, 1) := by rw [It_X8_drift]; rfl
theorem I_X8_drift_35 : zin zm_X8_drift.2.2.2.2.2 35 = some (.iconst 0, 1) := by rw [It_X8_drift]; rfl
theorem I_X8_drift_36 : zin zm_X8_drift.2.2.2.2.2 36 = some (.bipush 108, 2) := by rw [It_X8_drift]; rfl
theorem I_X8_drift_38 : zin zm_X8_drift.2.2.2.2.2 38 = some (.invokevirtual 188, 3) := by rw [It_X8_drift]; rfl
theorem I_X8_drift_41 : zin zm_X8_drift.2.2.2.2.2 41 = some (.iload_n 1, 1) := by rw [It_X8_drift]; rfl
theorem I_X8_drift_42 : zin zm_X8_drift.2.2.2.2.2 42 = some (.istore 4, 2) := by rw [It_X8_drift]; rfl
theorem I_X8_drift_44 : zin zm_X8_drift.2.2.2.2.2 44 = some (.iconst 0, 1) := by rw [It_X8_drift]; rfl
theorem I_X8_drift_45 : zin zm_X8_drift.2.2.2.2.2 45 = some (.istore 5, 2) := by rw [It_X8_drift]; rfl
theorem I_X8_drift_47 : zin zm_X8_drift.2.2.2.2.2 47 = some (.iconst 0, 1) := by rw [It_X8_drift]; rfl
theorem I_X8_drift_48 : zin zm_X8_drift.2.2.2.2.2 48 = some (.istore 6, 2) := by rw [It_X8_drift]; rfl
theorem I_X8_drift_50 : zin zm_X8_drift.2.2.2.2.2 50 = some (.iload 6, 2) := by rw [It_X8_drift]; rfl
theorem I_X8_drift_52 : zin zm_X8_drift.2.2.2.2.2 52 = some (.iload_n 2, 1) := by rw [It_X8_drift]; rfl
theorem I_X8_drift_53 : zin zm_X8_drift.2.2.2.2.2 53 = some (.if_icmp .ge 57, 3) := by rw [It_X8_drift]; rfl
theorem I_X8_drift_56 : zin zm_X8_drift.2.2.2.2.2 56 = some (.iload 4, 2) := by rw [It_X8_drift]; rfl
theorem I_X8_drift_58 : zin zm_X8_drift.2.2.2.2.2 58 = some (.ldc 241, 2) := by rw [It_X8_drift]; rfl
theorem I_X8_drift_60 : zin zm_X8_drift.2.2.2.2.2 60 = some (.imul, 1) := by rw [It_X8_drift]; rfl
theorem I_X8_drift_61 : zin zm_X8_drift.2.2.2.2.2 61 = some (.sipush 12345, 3) := by rw [It_X8_drift]; rfl
theorem I_X8_drift_64 : zin zm_X8_drift.2.2.2.2.2 64 = some (.iadd, 1) := by rw [It_X8_drift]; rfl
theorem I_X8_drift_65 : zin zm_X8_drift.2.2.2.2.2 65 = some (.istore 4, 2) := by rw [It_X8_drift]; rfl
theorem I_X8_drift_67 : zin zm_X8_drift.2.2.2.2.2 67 = some (.iload 5, 2) := by rw [It_X8_drift]; rfl
theorem I_X8_drift_69 : zin zm_X8_drift.2.2.2.2.2 69 = some (.aload_n 0, 1) := by rw [It_X8_drift]; rfl
theorem I_X8_drift_70 : zin zm_X8_drift.2.2.2.2.2 70 = some (.bipush 108, 2) := by rw [It_X8_drift]; rfl
theorem I_X8_drift_72 : zin zm_X8_drift.2.2.2.2.2 72 = some (.iload 4, 2) := by rw [It_X8_drift]; rfl
theorem I_X8_drift_74 : zin zm_X8_drift.2.2.2.2.2 74 = some (.bipush 16, 2) := by rw [It_X8_drift]; rfl
theorem I_X8_drift_76 : zin zm_X8_drift.2.2.2.2.2 76 = some (.ishr, 1) := by rw [It_X8_drift]; rfl
theorem I_X8_drift_77 : zin zm_X8_drift.2.2.2.2.2 77 = some (.sipush 32767, 3) := by rw [It_X8_drift]; rfl
theorem I_X8_drift_80 : zin zm_X8_drift.2.2.2.2.2 80 = some (.iand, 1) := by rw [It_X8_drift]; rfl
theorem I_X8_drift_81 : zin zm_X8_drift.2.2.2.2.2 81 = some (.aload_n 0, 1) := by rw [It_X8_drift]; rfl
theorem I_X8_drift_82 : zin zm_X8_drift.2.2.2.2.2 82 = some (.invokevirtual 167, 3) := by rw [It_X8_drift]; rfl
theorem I_X8_drift_85 : zin zm_X8_drift.2.2.2.2.2 85 = some (.irem, 1) := by rw [It_X8_drift]; rfl
theorem I_X8_drift_86 : zin zm_X8_drift.2.2.2.2.2 86 = some (.iconst 1, 1) := by rw [It_X8_drift]; rfl
theorem I_X8_drift_87 : zin zm_X8_drift.2.2.2.2.2 87 = some (.iadd, 1) := by rw [It_X8_drift]; rfl
theorem I_X8_drift_88 : zin zm_X8_drift.2.2.2.2.2 88 = some (.invokevirtual 170, 3) := by rw [It_X8_drift]; rfl
theorem I_X8_drift_91 : zin zm_X8_drift.2.2.2.2.2 91 = some (.bipush (-4), 2) := by rw [It_X8_drift]; rfl
theorem I_X8_drift_93 : zin zm_X8_drift.2.2.2.2.2 93 = some (.if_icmp .ne 7, 3) := by rw [It_X8_drift]; rfl
theorem I_X8_drift_96 : zin zm_X8_drift.2.2.2.2.2 96 = some (.iconst 0, 1) := by rw [It_X8_drift]; rfl
theorem I_X8_drift_97 : zin zm_X8_drift.2.2.2.2.2 97 = some (.goto 4, 3) := by rw [It_X8_drift]; rfl
theorem I_X8_drift_100 : zin zm_X8_drift.2.2.2.2.2 100 = some (.iconst 1, 1) := by rw [It_X8_drift]; rfl
theorem I_X8_drift_101 : zin zm_X8_drift.2.2.2.2.2 101 = some (.iadd, 1) := by rw [It_X8_drift]; rfl
theorem I_X8_drift_102 : zin zm_X8_drift.2.2.2.2.2 102 = some (.istore 5, 2) := by rw [It_X8_drift]; rfl
theorem I_X8_drift_104 : zin zm_X8_drift.2.2.2.2.2 104 = some (.iinc 6 1, 3) := by rw [It_X8_drift]; rfl
theorem I_X8_drift_107 : zin zm_X8_drift.2.2.2.2.2 107 = some (.goto (-57), 3) := by rw [It_X8_drift]; rfl
theorem I_X8_drift_110 : zin zm_X8_drift.2.2.2.2.2 110 = some (.iload_n 3, 1) := by rw [It_X8_drift]; rfl
theorem I_X8_drift_111 : zin zm_X8_drift.2.2.2.2.2 111 = some (.ifCond .ne 8, 3) := by rw [It_X8_drift]; rfl
theorem I_X8_drift_114 : zin zm_X8_drift.2.2.2.2.2 114 = some (.iload 5, 2) := by rw [It_X8_drift]; rfl
theorem I_X8_drift_116 : zin zm_X8_drift.2.2.2.2.2 116 = some (.goto 9, 3) := by rw [It_X8_drift]; rfl
theorem I_X8_drift_119 : zin zm_X8_drift.2.2.2.2.2 119 = some (.aload_n 0, 1) := by rw [It_X8_drift]; rfl
theorem I_X8_drift_120 : zin zm_X8_drift.2.2.2.2.2 120 = some (.bipush 108, 2) := by rw [It_X8_drift]; rfl
theorem I_X8_drift_122 : zin zm_X8_drift.2.2.2.2.2 122 = some (.invokevirtual 198, 3) := by rw [It_X8_drift]; rfl
theorem I_X8_drift_125 : zin zm_X8_drift.2.2.2.2.2 125 = some (.ireturn, 1) := by rw [It_X8_drift]; rfl
theorem C_7_260 : zlk zcis 7 260 = some (1103515245, 779) := rfl
theorem J_8_239 : zlk zcJs 8 239 = some (60, 1189) := rfl
theorem C_8_241 : zlk zcis 8 241 = some (1103515245, 1190) := rfl
theorem cl_X7_drift : zm_X7_drift.2.2.2.2.1 = 7 := by
  unfold zm_X7_drift
  rfl
theorem cn_X7_drift : zm_X7_drift.2.2.2.2.1 ≠ 12 := by
  rw [cl_X7_drift]
  decide
theorem cn2_X7_drift : zm_X7_drift.2.2.2.2.1 ≠ 2 := by
  rw [cl_X7_drift]
  decide
theorem cl_X8_drift : zm_X8_drift.2.2.2.2.1 = 8 := by
  unfold zm_X8_drift
  rfl
theorem cn_X8_drift : zm_X8_drift.2.2.2.2.1 ≠ 12 := by
  rw [cl_X8_drift]
  decide
theorem cn2_X8_drift : zm_X8_drift.2.2.2.2.1 ≠ 2 := by
  rw [cl_X8_drift]
  decide
section
variable {sc : Option (List Int32)} {d : Nat} {mi : zMi} {pc q : Nat} {L sk : List Value} {m : zM} {r : Option Value} {h' : zHp}
theorem i_ldw {i : Nat} {x : Int32} {e : Int × Nat} (H : zE sc d mi pc L sk m r h') (hi : zin mi.2.2.2.2.2 pc = some (.ldc_w i, 3)) (hn : mi.2.2.2.2.1 ≠ 2) (hf : zlk zcis mi.2.2.2.2.1 i = some e) (hx : Int32.ofInt e.1 = x) (hq : pc + 3 = q) : zE sc d mi q L (.int x :: sk) m r h' := by
  subst hx; subst hq
  refine i_p H hi (fun lo => ?_)
  simp [zst, zg, hn, hf]
end
theorem z2c : ∀ c, c ≤ 5 → 2 ^ c ≤ 1 → c = 0 := by decide
/-- tries by a seed -/
def gDw (c : Nat) (s : Int32) : Int32 := ((s >>> ((16 : Int32) &&& 31)) &&& (32767 : Int32)) - ((s >>> ((16 : Int32) &&& 31)) &&& (32767 : Int32)) / (Int32.ofNat (2 ^ c) - 1) * (Int32.ofNat (2 ^ c) - 1) + 1
def gDs (s : Int32) : Int32 := s * 1103515245 + 12345
def gDr (c : Nat) : Nat → (Nat → Int32) → Int32 → Int32 → (Nat → Int32) × Int32
  | 0, g, _, o => (g, o)
  | n + 1, g, s, o => if gTry1 g c (gDw c (gDs s)) = -4 then gDr c n (gTry2 g c (gDw c (gDs s))) (gDs s) o else gDr c n (gTry2 g c (gDw c (gDs s))) (gDs s) (o + 1)
def gDrf (w c : Nat) (u : Int32) (x : (Nat → Int32) × Int32) : Int32 := if u = 0 then x.2 else zmx (gcn x.1) c
def gDrift (c : Nat) (g : Nat → Int32) (s n w : Int32) : Int32 := if zBt n 1 60 ∧ zBt w 0 1 then (if c = 0 then -2 else gDrf 0 c w (gDr c n.toNatClampNeg g s 0)) else -1
theorem zbt_60 {x : Int32} (h : zBt x 1 60) : ∃ n, n ≤ 60 ∧ x = Int32.ofNat n ∧ x.toNatClampNeg = n := by
  obtain ⟨h1, h2⟩ := h
  rw [Int32.lt_iff_toInt_lt] at h1 h2
  have e1 : (1 : Int32).toInt = 1 := rfl
  have e2 : (60 : Int32).toInt = 60 := rfl
  rw [e1] at h1
  rw [e2] at h2
  have e : x = Int32.ofNat x.toInt.toNat := by
    apply Int32.toInt_inj.mp
    rw [zofn_t (by omega)]
    omega
  refine ⟨x.toInt.toNat, by omega, e, ?_⟩
  rw [e, Int32.toNatClampNeg_ofNat_of_lt (by omega), ← e]
theorem dr_7 {c n : Nat} {u w : Int32} (hn : n ≤ 60) : ∀ (j i : Nat) (g : Nat → Int32) (s o : Int32) (d : Nat) (r : Option Value) (h' : zHp) (m : zM), i + j = n → LV m 20 c g → gok g c → zE none d zm_X7_drift 70 [.ref 0, .int u, .int (Int32.ofNat n), .int w, .int (Int32.ofNat (2 ^ c) - 1), .ref 20, .int s, .int o, .int (Int32.ofNat i), .null] [] m r h' → r = some (.int (gDrf 0 c w (gDr c j g s o))) := by
  intro j
  induction j with
  | zero =>
    intro i g s o d r h' m hj hL hg H
    replace H := i_il (q := 72) H I_X7_drift_70 rfl rfl
    replace H := i_iln (q := 73) H I_X7_drift_72 rfl rfl
    have W := i_ic_ge (t := 125) (q := 76) H I_X7_drift_73 (by decide) rfl
    clear H
    rcases W with ⟨c_73, H⟩ | ⟨c_73, H⟩
    · skip
      replace H := i_iln (q := 126) H I_X7_drift_125 rfl rfl
      have W := i_if_ne (t := 134) (q := 129) H I_X7_drift_126 (by decide) rfl
      clear H
      rcases W with ⟨c_126, H⟩ | ⟨c_126, H⟩
      · skip
        replace H := i_al (q := 136) H I_X7_drift_134 rfl rfl
        have W := i_cv0 2 (q := 139) H I_X7_drift_136 K_7_176 Zm_11 rfl rfl
        clear H
        obtain ⟨r1, h1, Hc, K1, K2⟩ := W
        obtain ⟨e1, e2⟩ := t_X0_greatest lkk_20 hL.1 hL.2.1 Hc
        have H := K1 _ _ e1 e2
        clear e1 e2 Hc K1 K2
        obtain ⟨hr, hh⟩ := i_ir H I_X7_drift_139
        exact hr.trans (by rw [gDr, gDrf, if_neg c_126, LV_mx hL])
      · skip
        replace H := i_il (q := 131) H I_X7_drift_129 rfl rfl
        replace H := i_goto (q := 139) H I_X7_drift_131 (by decide)
        obtain ⟨hr, hh⟩ := i_ir H I_X7_drift_139
        exact hr.trans (by rw [gDr, gDrf, if_pos c_126])
    · exfalso
      exact absurd ((zofn_lt (by omega) (by omega)).mp c_73) (by omega)
  | succ j ih =>
    intro i g s o d r h' m hj hL hg H
    replace H := i_il (q := 72) H I_X7_drift_70 rfl rfl
    replace H := i_iln (q := 73) H I_X7_drift_72 rfl rfl
    have W := i_ic_ge (t := 125) (q := 76) H I_X7_drift_73 (by decide) rfl
    clear H
    rcases W with ⟨c_73, H⟩ | ⟨c_73, H⟩
    · exfalso
      exact c_73 ((zofn_lt (by omega) (by omega)).mpr (by omega))
    · skip
      replace H := i_il (q := 78) H I_X7_drift_76 rfl rfl
      replace H := i_ldw (x := 1103515245) (q := 81) H I_X7_drift_78 (cn2_X7_drift) C_7_260 (by decide) rfl
      replace H := i_imul (q := 82) H I_X7_drift_81 rfl
      replace H := i_sip (x := 12345) (q := 85) H I_X7_drift_82 (by decide) rfl
      replace H := i_iadd (q := 86) H I_X7_drift_85 rfl
      replace H := i_is (q := 88) H I_X7_drift_86 rfl rfl
      replace H := i_il (q := 90) H I_X7_drift_88 rfl rfl
      replace H := i_bip (x := 16) (q := 92) H I_X7_drift_90 (by decide) rfl
      replace H := i_ishr (q := 93) H I_X7_drift_92 rfl
      replace H := i_sip (x := 32767) (q := 96) H I_X7_drift_93 (by decide) rfl
      replace H := i_iand (q := 97) H I_X7_drift_96 rfl
      replace H := i_il (q := 99) H I_X7_drift_97 rfl rfl
      have W := i_rem (q := 100) H I_X7_drift_99 rfl
      clear H
      obtain ⟨z_99, H⟩ := W
      replace H := i_icst (x := 1) (q := 101) H I_X7_drift_100 (by decide) rfl
      replace H := i_iadd (q := 102) H I_X7_drift_101 rfl
      replace H := i_is (q := 104) H I_X7_drift_102 rfl rfl
      replace H := i_al (q := 106) H I_X7_drift_104 rfl rfl
      replace H := i_il (q := 108) H I_X7_drift_106 rfl rfl
      have W := i_cv1 1 (q := 111) H I_X7_drift_108 K_7_155 Zm_16 rfl rfl
      clear H
      obtain ⟨r1, h1, Hc, K1, K2⟩ := W
      obtain ⟨M_108, e1, e2, F_108⟩ := t_X0_attempt lkk_20 hL hg Hc
      have H := K1 _ _ e1 e2
      clear e1 e2 Hc K1 K2
      replace H := i_bip (x := (-4)) (q := 113) H I_X7_drift_111 (by decide) rfl
      have W := i_ic_eq (t := 119) (q := 116) H I_X7_drift_113 (by decide) rfl
      clear H
      rcases W with ⟨c_113, H⟩ | ⟨c_113, H⟩
      · skip
        replace H := i_inc (q := 122) H I_X7_drift_119 rfl rfl rfl
        replace H := i_goto (q := 70) H I_X7_drift_122 (by decide)
        have c113 :  gTry1 g c (gDw c (gDs s)) = -4 := c_113
        replace H := i_w [true, true, true, true, true, true, true, true, true, false] H
        replace H : zE none d zm_X7_drift 70 [.ref 0, .int u, .int (Int32.ofNat n), .int w, .int (Int32.ofNat (2 ^ c) - 1), .ref 20, .int (gDs s), .int o, .int (Int32.ofNat (i + 1)), .null] [] M_108 r h' := by
          rw [← zofn_s]
          exact H
        rw [gDr, if_pos c113]
        exact ih (i + 1) _ (gDs s) o d r h' M_108 (by omega) F_108.1 (gok_t hg) H
      · skip
        replace H := i_inc (q := 119) H I_X7_drift_116 rfl rfl rfl
        replace H := i_inc (q := 122) H I_X7_drift_119 rfl rfl rfl
        replace H := i_goto (q := 70) H I_X7_drift_122 (by decide)
        have c113 : ¬ gTry1 g c (gDw c (gDs s)) = -4 := c_113
        replace H := i_w [true, true, true, true, true, true, true, true, true, false] H
        replace H : zE none d zm_X7_drift 70 [.ref 0, .int u, .int (Int32.ofNat n), .int w, .int (Int32.ofNat (2 ^ c) - 1), .ref 20, .int (gDs s), .int (o + 1), .int (Int32.ofNat (i + 1)), .null] [] M_108 r h' := by
          rw [← zofn_s]
          exact H
        rw [gDr, if_neg c113]
        exact ih (i + 1) _ (gDs s) (o + 1) d r h' M_108 (by omega) F_108.1 (gok_t hg) H
theorem t_X7_drift {d : Nat} {m : zM} {r : Option Value} {h' : zHp} {s n w : Int32} {c : Nat} {g : Nat → Int32} (hL : LV m 11 c g) (hg : gok g c) (H : zE none d zm_X7_drift 0 [.ref 0, .int s, .int n, .int w, .null, .null, .null, .null, .null, .null] [] m r h') : r = some (.int (gDrift c g s n w)) := by
  have hL0 := hL
  obtain ⟨l1, l2, l3, l4, l5, a, l6, l7, l8, l9⟩ := hL
  replace H := i_iln (q := 1) H I_X7_drift_0 rfl rfl
  replace H := i_icst (x := 1) (q := 2) H I_X7_drift_1 (by decide) rfl
  have W := i_ic_lt (t := 20) (q := 5) H I_X7_drift_2 (by decide) rfl
  clear H
  rcases W with ⟨c_2, H⟩ | ⟨c_2, H⟩
  · skip
    replace H := i_icst (x := (-1)) (q := 21) H I_X7_drift_20 (by decide) rfl
    obtain ⟨hr, hh⟩ := i_ir H I_X7_drift_21
    exact hr.trans (by rw [gDrift, if_neg (fun q => q.1.1 c_2)])
  · skip
    replace H := i_iln (q := 6) H I_X7_drift_5 rfl rfl
    replace H := i_bip (x := 60) (q := 8) H I_X7_drift_6 (by decide) rfl
    have W := i_ic_gt (t := 20) (q := 11) H I_X7_drift_8 (by decide) rfl
    clear H
    rcases W with ⟨c_8, H⟩ | ⟨c_8, H⟩
    · skip
      replace H := i_icst (x := (-1)) (q := 21) H I_X7_drift_20 (by decide) rfl
      obtain ⟨hr, hh⟩ := i_ir H I_X7_drift_21
      exact hr.trans (by rw [gDrift, if_neg (fun q => q.1.2 c_8)])
    · skip
      replace H := i_iln (q := 12) H I_X7_drift_11 rfl rfl
      have W := i_if_lt (t := 20) (q := 15) H I_X7_drift_12 (by decide) rfl
      clear H
      rcases W with ⟨c_12, H⟩ | ⟨c_12, H⟩
      · skip
        replace H := i_icst (x := (-1)) (q := 21) H I_X7_drift_20 (by decide) rfl
        obtain ⟨hr, hh⟩ := i_ir H I_X7_drift_21
        exact hr.trans (by rw [gDrift, if_neg (fun q => q.2.1 c_12)])
      · skip
        replace H := i_iln (q := 16) H I_X7_drift_15 rfl rfl
        replace H := i_icst (x := 1) (q := 17) H I_X7_drift_16 (by decide) rfl
        have W := i_ic_le (t := 22) (q := 20) H I_X7_drift_17 (by decide) rfl
        clear H
        rcases W with ⟨c_17, H⟩ | ⟨c_17, H⟩
        · skip
          replace H := i_icst (x := 1) (q := 23) H I_X7_drift_22 (by decide) rfl
          replace H := i_aln (q := 24) H I_X7_drift_23 rfl rfl
          replace H := i_gfr (q := 27) H I_X7_drift_24 G_7_19 cn_X7_drift LY_0 rfl rfl
          replace H := i_gfi (q := 30) H I_X7_drift_27 G_7_90 cn_X7_drift LY_11 rfl rfl
          replace H := i_ishl (q := 31) H I_X7_drift_30 rfl
          replace H := i_icst (x := 1) (q := 32) H I_X7_drift_31 (by decide) rfl
          replace H := i_isub (q := 33) H I_X7_drift_32 rfl
          replace H := i_is (q := 35) H I_X7_drift_33 rfl rfl
          replace H := i_il (q := 37) H I_X7_drift_35 rfl rfl
          have W := i_if_gt (t := 43) (q := 40) H I_X7_drift_37 (by decide) rfl
          clear H
          rcases W with ⟨c_37, H⟩ | ⟨c_37, H⟩
          · skip
            replace H := i_aln (q := 44) H I_X7_drift_43 rfl rfl
            replace H := i_gfr (q := 47) H I_X7_drift_44 G_7_26 cn_X7_drift LY_0 rfl rfl
            replace H := i_gfr (q := 50) H I_X7_drift_47 G_7_173 cn_X7_drift LY_19 rfl rfl
            replace H := i_as (q := 52) H I_X7_drift_50 rfl rfl
            replace H := i_al (q := 54) H I_X7_drift_52 rfl rfl
            replace H := i_aln (q := 55) H I_X7_drift_54 rfl rfl
            replace H := i_gfr (q := 58) H I_X7_drift_55 G_7_19 cn_X7_drift LY_0 rfl rfl
            have W := i_cv1 1 (q := 61) H I_X7_drift_58 K_7_77 Zm_2 rfl rfl
            clear H
            obtain ⟨r1, h1, Hc, K1, K2⟩ := W
            obtain ⟨M_58, e1, e2, F_58⟩ := t_become lkk_20 lkk_11 (by omega) l1 l2 l8 l6 Hc
            have H := K2 _ e1 e2
            clear e1 e2 Hc K1 K2
            replace H := i_iln (q := 62) H I_X7_drift_61 rfl rfl
            replace H := i_is (q := 64) H I_X7_drift_62 rfl rfl
            replace H := i_icst (x := 0) (q := 65) H I_X7_drift_64 (by decide) rfl
            replace H := i_is (q := 67) H I_X7_drift_65 rfl rfl
            replace H := i_icst (x := 0) (q := 68) H I_X7_drift_67 (by decide) rfl
            replace H := i_is (q := 70) H I_X7_drift_68 rfl rfl
            have hq : zBt n 1 60 ∧ zBt w 0 1 := ⟨⟨c_2, c_8⟩, c_12, c_17⟩
            obtain ⟨e1, e2, e3⟩ := zsh_c c l2
            rw [l1, e1] at c_37
            have h0 : ¬ c = 0 := fun e => by
              subst e
              exact absurd c_37 (by decide)
            rw [gDrift, if_pos hq, if_neg h0]
            obtain ⟨k, k1, rfl, k2⟩ := zbt_60 hq.1
            rw [k2]
            rw [l1, e1] at H
            exact dr_7 k1 k 0 g s 0 d r h' M_58 (by omega) (LV_b hL0 l8 l6 F_58) hg H
          · skip
            replace H := i_bip (x := (-2)) (q := 42) H I_X7_drift_40 (by decide) rfl
            obtain ⟨hr, hh⟩ := i_ir H I_X7_drift_42
            have hq : zBt n 1 60 ∧ zBt w 0 1 := ⟨⟨c_2, c_8⟩, c_12, c_17⟩
            obtain ⟨e1, e2, e3⟩ := zsh_c c l2
            rw [l1, e1] at c_37
            have h0 : c = 0 := by
              rw [Int32.lt_iff_toInt_lt, zofn_m1 (by omega)] at c_37
              have e0 : (0 : Int32).toInt = 0 := rfl
              exact z2c c l2 (by omega)
            exact hr.trans (by rw [gDrift, if_pos hq, if_pos h0])
        · skip
          replace H := i_icst (x := (-1)) (q := 21) H I_X7_drift_20 (by decide) rfl
          obtain ⟨hr, hh⟩ := i_ir H I_X7_drift_21
          exact hr.trans (by rw [gDrift, if_neg (fun q => q.2.2 c_17)])
theorem dr_8 {c n : Nat} {u w : Int32} (hn : n ≤ 60) : ∀ (j i : Nat) (g : Nat → Int32) (s o : Int32) (d : Nat) (r : Option Value) (h' : zHp) (m : zM), i + j = n → PG m 108 g → gok g c → m 71 2 = Int32.ofNat c → zMk m → zE none d zm_X8_drift 50 [.ref 71, .int u, .int (Int32.ofNat n), .int w, .int s, .int o, .int (Int32.ofNat i)] [] m r h' → r = some (.int (gDrf 0 c w (gDr c j g s o))) := by
  intro j
  induction j with
  | zero =>
    intro i g s o d r h' m hj hP hg hc hM H
    obtain ⟨e1, e2, e3⟩ := zsh_c c hg.1
    replace H := i_il (q := 52) H I_X8_drift_50 rfl rfl
    replace H := i_iln (q := 53) H I_X8_drift_52 rfl rfl
    have W := i_ic_ge (t := 110) (q := 56) H I_X8_drift_53 (by decide) rfl
    clear H
    rcases W with ⟨c_53, H⟩ | ⟨c_53, H⟩
    · skip
      replace H := i_iln (q := 111) H I_X8_drift_110 rfl rfl
      have W := i_if_ne (t := 119) (q := 114) H I_X8_drift_111 (by decide) rfl
      clear H
      rcases W with ⟨c_111, H⟩ | ⟨c_111, H⟩
      · skip
        replace H := i_aln (q := 120) H I_X8_drift_119 rfl rfl
        replace H := i_bip (x := 108) (q := 122) H I_X8_drift_120 (by decide) rfl
        have W := i_cv1 2 (q := 125) H I_X8_drift_122 K_8_198 Zm_131 rfl rfl
        clear H
        obtain ⟨r1, h1, Hc, K1, K2⟩ := W
        obtain ⟨e1, e2⟩ := t_X8_mostOn (pg := 108) hP hg.1 hc Hc
        have H := K1 _ _ e1 e2
        clear e1 e2 Hc K1 K2
        obtain ⟨hr, hh⟩ := i_ir H I_X8_drift_125
        exact hr.trans (by rw [gDr, gDrf, if_neg c_111])
      · skip
        replace H := i_il (q := 116) H I_X8_drift_114 rfl rfl
        replace H := i_goto (q := 125) H I_X8_drift_116 (by decide)
        obtain ⟨hr, hh⟩ := i_ir H I_X8_drift_125
        exact hr.trans (by rw [gDr, gDrf, if_pos c_111])
    · exfalso
      exact absurd ((zofn_lt (by omega) (by omega)).mp c_53) (by omega)
  | succ j ih =>
    intro i g s o d r h' m hj hP hg hc hM H
    obtain ⟨e1, e2, e3⟩ := zsh_c c hg.1
    replace H := i_il (q := 52) H I_X8_drift_50 rfl rfl
    replace H := i_iln (q := 53) H I_X8_drift_52 rfl rfl
    have W := i_ic_ge (t := 110) (q := 56) H I_X8_drift_53 (by decide) rfl
    clear H
    rcases W with ⟨c_53, H⟩ | ⟨c_53, H⟩
    · exfalso
      exact c_53 ((zofn_lt (by omega) (by omega)).mpr (by omega))
    · skip
      replace H := i_il (q := 58) H I_X8_drift_56 rfl rfl
      replace H := i_ldc (x := 1103515245) (q := 60) H I_X8_drift_58 (cn2_X8_drift) C_8_241 (by decide) rfl
      replace H := i_imul (q := 61) H I_X8_drift_60 rfl
      replace H := i_sip (x := 12345) (q := 64) H I_X8_drift_61 (by decide) rfl
      replace H := i_iadd (q := 65) H I_X8_drift_64 rfl
      replace H := i_is (q := 67) H I_X8_drift_65 rfl rfl
      replace H := i_il (q := 69) H I_X8_drift_67 rfl rfl
      replace H := i_aln (q := 70) H I_X8_drift_69 rfl rfl
      replace H := i_bip (x := 108) (q := 72) H I_X8_drift_70 (by decide) rfl
      replace H := i_il (q := 74) H I_X8_drift_72 rfl rfl
      replace H := i_bip (x := 16) (q := 76) H I_X8_drift_74 (by decide) rfl
      replace H := i_ishr (q := 77) H I_X8_drift_76 rfl
      replace H := i_sip (x := 32767) (q := 80) H I_X8_drift_77 (by decide) rfl
      replace H := i_iand (q := 81) H I_X8_drift_80 rfl
      replace H := i_aln (q := 82) H I_X8_drift_81 rfl rfl
      have W := i_cv0 0 (q := 85) H I_X8_drift_82 K_8_167 Zm_139 rfl rfl
      clear H
      obtain ⟨r1, h1, Hc, K1, K2⟩ := W
      obtain ⟨e1, e2⟩ := t_X8_all Hc
      have H := K1 _ _ e1 e2
      clear e1 e2 Hc K1 K2
      have W := i_rem (q := 86) H I_X8_drift_85 rfl
      clear H
      obtain ⟨z_85, H⟩ := W
      replace H := i_icst (x := 1) (q := 87) H I_X8_drift_86 (by decide) rfl
      replace H := i_iadd (q := 88) H I_X8_drift_87 rfl
      have W := i_cv2 3 (q := 91) H I_X8_drift_88 K_8_170 Zm_142 rfl rfl
      clear H
      obtain ⟨r1, h1, Hc, K1, K2⟩ := W
      obtain ⟨M_88, e1, e2, F_88⟩ := t_X8_triesOn (pg := 108) hP hg hc hM Hc
      have H := K1 _ _ e1 e2
      clear e1 e2 Hc K1 K2
      replace H := i_bip (x := (-4)) (q := 93) H I_X8_drift_91 (by decide) rfl
      have W := i_ic_ne (t := 100) (q := 96) H I_X8_drift_93 (by decide) rfl
      clear H
      rcases W with ⟨c_93, H⟩ | ⟨c_93, H⟩
      · skip
        replace H := i_icst (x := 1) (q := 101) H I_X8_drift_100 (by decide) rfl
        replace H := i_iadd (q := 102) H I_X8_drift_101 rfl
        replace H := i_is (q := 104) H I_X8_drift_102 rfl rfl
        replace H := i_inc (q := 107) H I_X8_drift_104 rfl rfl rfl
        replace H := i_goto (q := 50) H I_X8_drift_107 (by decide)
        rw [hc, e1] at c_93 F_88
        have c93 : ¬ gTry1 g c (gDw c (gDs s)) = -4 := c_93
        replace H : zE none d zm_X8_drift 50 [.ref 71, .int u, .int (Int32.ofNat n), .int w, .int (gDs s), .int (o + 1), .int (Int32.ofNat (i + 1))] [] M_88 r h' := by
          rw [← zofn_s]
          exact H
        rw [gDr, if_neg c93]
        exact ih (i + 1) _ (gDs s) (o + 1) d r h' M_88 (by omega) F_88.1 (gok_t hg) ((F_88.2 71 2 (by omega)).trans hc) (zMk_f hM (fun b => F_88.2 73 b (by omega))) H
      · skip
        replace H := i_icst (x := 0) (q := 97) H I_X8_drift_96 (by decide) rfl
        replace H := i_goto (q := 101) H I_X8_drift_97 (by decide)
        replace H := i_iadd (q := 102) H I_X8_drift_101 rfl
        replace H := i_is (q := 104) H I_X8_drift_102 rfl rfl
        replace H := i_inc (q := 107) H I_X8_drift_104 rfl rfl rfl
        replace H := i_goto (q := 50) H I_X8_drift_107 (by decide)
        rw [hc, e1] at c_93 F_88
        have c93 :  gTry1 g c (gDw c (gDs s)) = -4 := c_93
        replace H : zE none d zm_X8_drift 50 [.ref 71, .int u, .int (Int32.ofNat n), .int w, .int (gDs s), .int o, .int (Int32.ofNat (i + 1))] [] M_88 r h' := by
          rw [← zofn_s]
          rw [Int32.add_zero] at H
          exact H
        rw [gDr, if_pos c93]
        exact ih (i + 1) _ (gDs s) o d r h' M_88 (by omega) F_88.1 (gok_t hg) ((F_88.2 71 2 (by omega)).trans hc) (zMk_f hM (fun b => F_88.2 73 b (by omega))) H
theorem t_X8_drift {d : Nat} {m : zM} {r : Option Value} {h' : zHp} {s n w : Int32} {c a : Nat} {g : Nat → Int32} (hP : PG m 0 g) (hg : gok g c) (hpl : gpl g) (ha : g 26 = Int32.ofNat a) (ha8 : a ≤ 8) (hc : m 71 2 = Int32.ofNat c) (hM : zMk m) (H : zE none d zm_X8_drift 0 [.ref 71, .int s, .int n, .int w, .null, .null, .null] [] m r h') : r = some (.int (gDrift c g s n w)) := by
  replace H := i_iln (q := 1) H I_X8_drift_0 rfl rfl
  replace H := i_i2l (q := 2) H I_X8_drift_1 rfl
  replace H := i_lcst (x := 1) (q := 3) H I_X8_drift_2 (by decide) rfl
  replace H := i_ldc2 (x := 60) (q := 6) H I_X8_drift_3 J_8_239 (by decide) rfl
  replace H := i_in (q := 9) H I_X8_drift_6 K_8_55 rfl
  have W := i_if_eq (t := 22) (q := 12) H I_X8_drift_9 (by decide) rfl
  clear H
  rcases W with ⟨c_9, H⟩ | ⟨c_9, H⟩
  · skip
    replace H := i_icst (x := (-1)) (q := 23) H I_X8_drift_22 (by decide) rfl
    obtain ⟨hr, hh⟩ := i_ir H I_X8_drift_23
    rw [zin_bt (lo := 1) (hi := 60) rfl rfl] at c_9
    exact hr.trans (by rw [gDrift, if_neg (fun q => zif0 c_9 q.1)])
  · skip
    replace H := i_iln (q := 13) H I_X8_drift_12 rfl rfl
    replace H := i_i2l (q := 14) H I_X8_drift_13 rfl
    replace H := i_lcst (x := 0) (q := 15) H I_X8_drift_14 (by decide) rfl
    replace H := i_lcst (x := 1) (q := 16) H I_X8_drift_15 (by decide) rfl
    replace H := i_in (q := 19) H I_X8_drift_16 K_8_55 rfl
    have W := i_if_ne (t := 24) (q := 22) H I_X8_drift_19 (by decide) rfl
    clear H
    rcases W with ⟨c_19, H⟩ | ⟨c_19, H⟩
    · skip
      replace H := i_aln (q := 25) H I_X8_drift_24 rfl rfl
      replace H := i_gfi (q := 28) H I_X8_drift_25 G_8_131 cn_X8_drift LY_71 rfl rfl
      have W := i_if_ne (t := 34) (q := 31) H I_X8_drift_28 (by decide) rfl
      clear H
      rcases W with ⟨c_28, H⟩ | ⟨c_28, H⟩
      · skip
        replace H := i_aln (q := 35) H I_X8_drift_34 rfl rfl
        replace H := i_icst (x := 0) (q := 36) H I_X8_drift_35 (by decide) rfl
        replace H := i_bip (x := 108) (q := 38) H I_X8_drift_36 (by decide) rfl
        have W := i_cv2 1 (q := 41) H I_X8_drift_38 K_8_188 Zm_147 rfl rfl
        clear H
        obtain ⟨r1, h1, Hc, K1, K2⟩ := W
        obtain ⟨M_38, e1, e2, F_38⟩ := t_X8_copies (f := 0) (t := 108) rfl rfl (by omega) (by omega) (by omega) Hc
        have H := K2 _ e1 e2
        clear e1 e2 Hc K1 K2
        replace H := i_iln (q := 42) H I_X8_drift_41 rfl rfl
        replace H := i_is (q := 44) H I_X8_drift_42 rfl rfl
        replace H := i_icst (x := 0) (q := 45) H I_X8_drift_44 (by decide) rfl
        replace H := i_is (q := 47) H I_X8_drift_45 rfl rfl
        replace H := i_icst (x := 0) (q := 48) H I_X8_drift_47 (by decide) rfl
        replace H := i_is (q := 50) H I_X8_drift_48 rfl rfl
        rw [zin_bt (lo := 1) (hi := 60) rfl rfl] at c_9
        rw [zin_bt (lo := 0) (hi := 1) rfl rfl] at c_19
        have hq : zBt n 1 60 ∧ zBt w 0 1 := ⟨zif1 c_9, zif1 c_19⟩
        rw [hc] at c_28
        have h0 : ¬ c = 0 := fun e => c_28 (by rw [e]; rfl)
        rw [gDrift, if_pos hq, if_neg h0]
        obtain ⟨k, k1, rfl, k2⟩ := zbt_60 hq.1
        rw [k2]
        exact dr_8 k1 k 0 g s 0 d r h' M_38 (by omega) (PG_cp hP F_38) hg ((F_38.2 71 2 (by omega)).trans hc) (zMk_f hM (fun b => F_38.2 73 b (by omega))) H
      · skip
        replace H := i_bip (x := (-2)) (q := 33) H I_X8_drift_31 (by decide) rfl
        obtain ⟨hr, hh⟩ := i_ir H I_X8_drift_33
        rw [zin_bt (lo := 1) (hi := 60) rfl rfl] at c_9
        rw [zin_bt (lo := 0) (hi := 1) rfl rfl] at c_19
        have hq : zBt n 1 60 ∧ zBt w 0 1 := ⟨zif1 c_9, zif1 c_19⟩
        rw [hc] at c_28
        have h0 : c = 0 := zofn (j := 0) c_28 (by have := hg.1; omega) (by decide)
        exact hr.trans (by rw [gDrift, if_pos hq, if_pos h0])
    · skip
      replace H := i_icst (x := (-1)) (q := 23) H I_X8_drift_22 (by decide) rfl
      obtain ⟨hr, hh⟩ := i_ir H I_X8_drift_23
      rw [zin_bt (lo := 0) (hi := 1) rfl rfl] at c_19
      exact hr.trans (by rw [gDrift, if_neg (fun q => zif0 c_19 q.2)])
theorem pd_drift {m : zM} {r : Option Value} {h' : zHp} {x0 x1 x2 : Int32} (ht : zTy m) (hR : RF m) (H : zEv none 19 zm_X7_drift (0, lv_args 0 [.ref 0, .int x0, .int x1, .int x2], [], zhp m) r h') : ∃ m1 v, r = some (.int v) ∧ h' = zhp m1 ∧ zTy m1 ∧ ∀ r2 h2, zEv none 19 zm_X8_drift (0, lv_args 0 [.ref 71, .int x0, .int x1, .int x2], [], zhp m1) r2 h2 → ∃ m2 v2, r2 = some (.int v2) ∧ h2 = zhp m2 ∧ zTy m2 ∧ RF m2 ∧ v = v2 := by
  have hR0 := hR
  obtain ⟨⟨_, hM, _, _, c, c1, ⟨hL, hb⟩, _⟩, _⟩ := hR
  have hg := gok_11 ht hL
  have hpl := gpl_0 ht
  obtain ⟨a, a6, a7, _⟩ := hL.2.2.2.2.2
  obtain ⟨m1, v, a1, a2, a3, a4⟩ := e_X7_drift ht H
  refine ⟨m1, v, a1, a2, a3, fun r2 h2 H2 => ?_⟩
  obtain ⟨m2, v2, b1, b2, b3, b4⟩ := e_X8_drift a3 H2
  refine ⟨m2, v2, b1, b2, b3, RF_f (RF_f hR0 a4 (by decide +kernel)) b4 (by decide +kernel), ?_⟩
  have hP1 : PG m1 0 (pgf m 0) := ⟨by omega, fun j hj => a4 72 (0 + j) (zpl_r LY_72 (by omega)) (ymd_c (by decide +kernel) _)⟩
  have hM1 : zMk m1 := ⟨(a4 73 0 ⟨_, LY_73, rfl⟩ (by decide +kernel)).trans hM.1, (a4 73 1 ⟨_, LY_73, rfl⟩ (by decide +kernel)).trans hM.2.1, (a4 73 2 ⟨_, LY_73, rfl⟩ (by decide +kernel)).trans hM.2.2.1, (a4 73 3 ⟨_, LY_73, rfl⟩ (by decide +kernel)).trans hM.2.2.2⟩
  have hc1 : m1 71 2 = Int32.ofNat c := (a4 71 2 ⟨_, LY_71, rfl⟩ (by decide +kernel)).trans c1
  have k1 := t_X7_drift hL hg (zE_of 6 rfl H)
  have k2 := t_X8_drift hP1 hg hpl a7 a6 hc1 hM1 (zE_of 3 rfl H2)
  rw [a1] at k1
  rw [b1] at k2
  cases k1
  cases k2
  rfl
end
